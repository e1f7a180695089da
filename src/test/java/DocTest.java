import java.io.IOException;
import java.nio.file.Files;
import java.nio.file.Path;
import java.util.List;
import java.util.regex.Matcher;
import java.util.regex.Pattern;
import java.util.stream.Collectors;
import java.util.stream.Stream;

/** Every sentence of the document's Terms and Promises is named by a test, but for those that are listed here. */
public final class DocTest {
  /** What only says of which call or KIND the next sentences are. */
  private static final String[] NOTHING_TO_TEST = {
      "```text", "INSTRUCTIONS:", "THREADS 0 .. 7: thread():", "step(t):", "GATE:"};
  private static final Pattern TEXT = Pattern.compile("\"((?:[^\"\\\\\n]|\\\\.)*)\"");
  /** Shorter texts stand in scripts as well. */
  private static final int LEAST = 8;

  public static void main(String[] args) throws IOException {
    String doc = Doc.text();
    if (doc.isEmpty()) {
      return;
    }
    int from = doc.indexOf("THE TAPE has at most");
    int to = doc.indexOf("## Not promised");
    Script.due("the document has Terms and Promises", from > 0 && to > from, true);
    // FaceTest compares the faces that stand in the headings
    doc = doc.substring(Math.max(from, 0), Math.max(to, 0)).replaceAll("## Promise [0-9]+: .*?`.*?`:", "\n");
    boolean[] named = new boolean[doc.length()];
    for (String part : quoted()) {
      mark(doc, part, named);
    }
    for (String part : NOTHING_TO_TEST) {
      mark(doc, part, named);
    }
    for (String left : unnamed(doc, named)) {
      Script.due("[" + left + "]", "named by no test", "named by a test");
    }
    Script.finish();
  }

  private static List<String> quoted() throws IOException {
    try (Stream<Path> files = Files.list(Path.of(System.getProperty("tests", "src/test/java")))) {
      return files.filter(f -> f.toString().endsWith("Test.java") && !f.endsWith("DocTest.java"))
          .flatMap(DocTest::texts).distinct().collect(Collectors.toList());
    }
  }

  private static Stream<String> texts(Path file) {
    try {
      Matcher m = TEXT.matcher(Files.readString(file));
      return m.results().map(r -> r.group(1).replace("\\\"", "\"")).filter(t -> t.length() >= LEAST);
    } catch (IOException e) {
      throw new RuntimeException(e);
    }
  }

  private static void mark(String doc, String part, boolean[] named) {
    for (int at = doc.indexOf(part); at >= 0; at = doc.indexOf(part, at + 1)) {
      java.util.Arrays.fill(named, at, at + part.length(), true);
    }
  }

  /** The pieces with a letter or a digit in them. */
  private static List<String> unnamed(String doc, boolean[] named) {
    StringBuilder left = new StringBuilder();
    for (int i = 0; i < doc.length(); i++) {
      left.append(named[i] ? '\n' : doc.charAt(i));
    }
    return Stream.of(left.toString().split("\n")).map(String::strip).filter(p -> p.matches(".*[A-Za-z0-9].*"))
        .collect(Collectors.toList());
  }
}
