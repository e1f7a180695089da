import java.io.IOException;
import java.net.URL;
import java.net.URLClassLoader;
import java.nio.file.Files;
import java.nio.file.Path;
import java.util.List;
import java.util.regex.MatchResult;
import java.util.regex.Matcher;
import java.util.regex.Pattern;
import java.util.stream.Collectors;
import javax.tools.JavaCompiler;
import javax.tools.ToolProvider;

/** What README.md shows as a call and its answer: its examples are made a class, which is compiled and run. */
public final class ReadmeTest {
  private static final Path README = Path.of(System.getProperty("readme", "README.md"));
  private static final Pattern BLOCK = Pattern.compile("(?s)\n```java\n(.*?)\n```\n");
  private static final Pattern NEW = Pattern.compile("TurnKeeper \\w+ = new TurnKeeper\\(\\);");
  /** A name for the answer, the call, and the answer itself. */
  private static final Pattern CALL =
      Pattern.compile("(?:(int|long) (\\w+) = )?(\\S.*\\)); // (-?\\d+|throws \\w+)(?:: .*)?");
  private static final Pattern FACE = Pattern.compile("k\\.(\\w+)\\(");
  private static final Pattern CALL_IN_TABLE = Pattern.compile("(?m)^\\| `(\\w+)\\((.*?)\\)` ");
  private static final Pattern WORDS_IN_TABLE = Pattern.compile("(?m)^\\| (\\w+) \\|(?: (\\d),.*?)? \\| (`.*`) \\|$");
  private static final Pattern WORD = Pattern.compile("`([a-z]+)((?: [nkoxy])*)`");
  private static final int ALL_WORDS = 34;
  private static final Pattern FILE = Pattern.compile("`(\\w+(?:\\.java|Test))`");
  private static final String CHECKING = """
      static final java.util.List<String[]> seen = new java.util.ArrayList<>();
      interface Call { long answer(); }
      static void due(String line, String want, Call call) {
        String got;
        try {
          got = "" + call.answer();
        } catch (RuntimeException e) {
          got = "throws " + e.getClass().getSimpleName();
        }
        seen.add(new String[] {line, got, want});
      }
      """;

  public static void main(String[] args) throws Exception {
    String readme = Files.readString(README);
    List<String> blocks = BLOCK.matcher(readme).results().map(r -> r.group(1)).collect(Collectors.toList());
    Script.due("README.md has examples", blocks.size() > 1, true);
    everyCallIsShown(String.join("\n", blocks));
    filesAreThere(readme);
    callsInTable(readme);
    wordsInTable(readme);
    for (String[] call : answers(source(blocks))) {
      Script.due("README.md: " + call[0], call[1], call[2]);
    }
    Script.finish();
  }

  private static void everyCallIsShown(String examples) {
    List<String> shown = FACE.matcher(examples).results().map(r -> r.group(1)).collect(Collectors.toList());
    for (java.lang.reflect.Method m : TurnKeeper.class.getDeclaredMethods()) {
      if (java.lang.reflect.Modifier.isPublic(m.getModifiers())) {
        Script.due("README.md shows a call of " + m.getName(), shown.contains(m.getName()), true);
      }
    }
  }

  private static void filesAreThere(String readme) {
    Path tests = Path.of(System.getProperty("tests", "src/test/java"));
    FILE.matcher(readme).results().map(r -> r.group(1)).distinct().forEach(name -> {
      Path file = tests.resolve(name.endsWith(".java") ? name : name + ".java");
      Script.due("README.md names " + name + ", which is there", Files.exists(file), true);
    });
  }

  private static void callsInTable(String readme) {
    List<String> listed = CALL_IN_TABLE.matcher(readme).results()
        .map(r -> r.group(1) + " " + (r.group(2).isEmpty() ? 0 : r.group(2).split(", ").length))
        .sorted().collect(Collectors.toList());
    List<String> face = java.util.Arrays.stream(TurnKeeper.class.getDeclaredMethods())
        .filter(m -> java.lang.reflect.Modifier.isPublic(m.getModifiers()))
        .map(m -> m.getName() + " " + m.getParameterCount()).sorted().collect(Collectors.toList());
    Script.due("README.md's table of calls, with how many numbers each takes,", listed, face);
  }

  /** Each word takes the numbers that stand behind it, no more and no fewer, and an OBJECT of the row's KIND alone. */
  private static void wordsInTable(String readme) {
    int words = 0;
    for (MatchResult row : WORDS_IN_TABLE.matcher(readme).results().collect(Collectors.toList())) {
      for (MatchResult word : WORD.matcher(row.group(3)).results().collect(Collectors.toList())) {
        words++;
        for (int kind = 0; kind < 8; kind++) {
          String due = row.group(2) == null || row.group(2).equals("" + kind) ? "does not fail by 2" : "fails by 2";
          Script.due("README.md: " + word.group() + " at KIND " + kind, done(kind, word), due);
        }
        String numbers = word.group(2).replaceAll("[a-z]", "1");
        if (!numbers.isEmpty()) {
          Script.due("README.md: " + word.group() + " with fewer numbers",
              taken(word.group(1) + numbers.substring(2)), "UOE");
        }
        Script.due("README.md: " + word.group() + " with more numbers", taken(word.group(1) + numbers + " 1"), "UOE");
      }
    }
    Script.due("README.md's table of words: how many", words, ALL_WORDS);
  }

  private static String done(int kind, MatchResult word) {
    TurnKeeper k = new TurnKeeper();
    k.make(kind, 1);
    String numbers = word.group(2).replace("o", "0").replaceAll("[nkxy]", "1");
    if (!Script.answer(k, "thread " + word.group(1) + numbers).equals("0")) {
      return "is broken";
    }
    k.step(0);
    return k.look(0, 5) == 2 ? "fails by 2" : "does not fail by 2";
  }

  private static String taken(String program) {
    return Script.answer(new TurnKeeper(), "thread " + program);
  }

  /** A block with a method stands as it is; each other one is made a method that checks every call's answer. */
  private static String source(List<String> blocks) {
    StringBuilder all = new StringBuilder("public final class ReadmeExamples {\n").append(CHECKING);
    StringBuilder main = new StringBuilder("public static java.util.List<String[]> run() {\n");
    for (int i = 0; i < blocks.size(); i++) {
      if (blocks.get(i).startsWith("static ")) {
        all.append(blocks.get(i)).append('\n');
      } else {
        all.append("static void example").append(i).append("() {\n").append(checked(blocks.get(i))).append("}\n");
        main.append("example").append(i).append("();\n");
      }
    }
    return all.append(main).append("return seen;\n}\n}\n").toString();
  }

  private static String checked(String block) {
    StringBuilder all = new StringBuilder();
    for (String line : block.split("\n")) {
      Matcher call = CALL.matcher(line);
      if (NEW.matcher(line).matches()) {
        all.append(line).append('\n');
      } else if (call.matches()) {
        String quoted = "\"" + line.replace("\\", "\\\\").replace("\"", "\\\"") + "\"";
        String got = call.group(3);
        if (call.group(1) != null) {
          all.append(call.group(1) + " " + call.group(2) + " = " + got + ";\n");
          got = call.group(2);
        }
        all.append("due(" + quoted + ", \"" + call.group(4) + "\", () -> " + got + ");\n");
      } else {
        Script.due("README.md: " + line, "shows no answer", "a call with its answer");
      }
    }
    return all.toString();
  }

  @SuppressWarnings("unchecked")
  private static List<String[]> answers(String source) throws Exception {
    Path folder = Files.createTempDirectory("readme");
    Path file = folder.resolve("ReadmeExamples.java");
    try {
      Files.writeString(file, source);
      JavaCompiler compiler = ToolProvider.getSystemJavaCompiler();
      int failed = compiler.run(null, null, null, "-cp", System.getProperty("java.class.path"),
          "-d", folder.toString(), file.toString());
      Script.due("README.md's examples compile", failed, 0);
      if (failed != 0) {
        return List.of();
      }
      try (URLClassLoader loader = new URLClassLoader(new URL[] {folder.toUri().toURL()})) {
        return (List<String[]>) loader.loadClass("ReadmeExamples").getMethod("run").invoke(null);
      }
    } finally {
      remove(folder);
    }
  }

  private static void remove(Path folder) throws IOException {
    try (java.util.stream.Stream<Path> files = Files.list(folder)) {
      for (Path file : files.collect(Collectors.toList())) {
        Files.delete(file);
      }
    }
    Files.delete(folder);
  }
}
