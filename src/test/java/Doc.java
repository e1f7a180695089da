import java.io.IOException;
import java.nio.file.Files;
import java.nio.file.Path;

/** The document, whose sentences the tests name. */
final class Doc {
  /** Where the document is, from the project's folder, if the property doc does not tell. */
  private static final Path PATH = Path.of(System.getProperty("doc", "../shared/DOC.md"));
  private static final String TEXT = read();

  private Doc() {
  }

  /** All of it, with one blank for each gap; empty where the document can't be read. */
  static String text() {
    return TEXT;
  }

  /** A part of a sentence as a test's name; a part that the document has not is itself an error. */
  static String says(String part) {
    if (!TEXT.isEmpty() && !TEXT.contains(part)) {
      Script.due("the document says \"" + part + "\"", false, true);
    }
    return "\"" + part + "\"";
  }

  private static String read() {
    try {
      return Files.readString(PATH).replaceAll("\\s+", " ");
    } catch (IOException e) {
      System.out.println("the document is not at " + PATH.toAbsolutePath() + ": no sentence is looked up");
      return "";
    }
  }
}
