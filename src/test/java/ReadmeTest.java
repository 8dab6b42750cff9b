import java.io.IOException;
import java.lang.reflect.Method;
import java.lang.reflect.Modifier;
import java.net.URL;
import java.net.URLClassLoader;
import java.nio.file.Files;
import java.nio.file.Path;
import java.util.ArrayList;
import java.util.List;
import java.util.regex.Matcher;
import java.util.regex.Pattern;
import javax.tools.ToolProvider;

/** README.md: its example compiles and answers as it says; its table names what the face has. */
public final class ReadmeTest {
  private static final String FIRST = "Undermost house = new Undermost();";
  /** A call, behind the variable that may keep its answer, and what stands behind "// ->". */
  private static final Pattern LINE = Pattern.compile(
      "(?:\\w+ (\\w+) = )?(.+);\\s+// -> (\"[^\"]*\"|throws \\w+|[^,\\s]+)(?:,.*)?");
  private static final Pattern ROW = Pattern.compile("\\| (\\d+) \\| `(\\w+)\\((.*)\\)` \\|.*");

  private static final Due due = new Due();

  public static void main(String[] args) throws Exception {
    List<String> readme = Files.readAllLines(Path.of("README.md"));
    exampleAnswersAsItSays(example(readme));
    tableNamesTheFace(readme);
    due.end();
  }

  /** The lines of README.md between ```java and ```. */
  private static List<String> example(List<String> readme) {
    List<String> lines = new ArrayList<>();
    boolean isInside = false;
    for (String line : readme) {
      if (line.startsWith("```")) {
        isInside = line.equals("```java");
      } else if (isInside) {
        lines.add(line);
      }
    }
    return lines;
  }

  private static void exampleAnswersAsItSays(List<String> lines) throws Exception {
    due.about("README.md, the example");
    due.is("its first line", lines.get(0), FIRST);
    List<String> want = new ArrayList<>();
    StringBuilder body = new StringBuilder();
    for (String line : lines.subList(1, lines.size())) {
      Matcher m = LINE.matcher(line);
      due.is(line + " says what it answers", m.matches(), true);
      want.add(m.group(3));
      body.append(asked(line, m));
    }
    List<?> got = answers(lines, body.toString());
    due.is("how many calls answered", got.size(), want.size());
    for (int i = 0; i < want.size(); i++) {
      due.is(lines.get(i + 1), got.get(i), want.get(i));
    }
  }

  /** A line as it stands, and beside it what keeps its answer. */
  private static String asked(String line, Matcher m) {
    if (m.group(1) != null) {
      return line + "\nanswers.add(told(" + m.group(1) + "));\n";
    }
    return "try { answers.add(told(" + m.group(2) + ")); }\n"
        + "catch (RuntimeException e) { answers.add(\"throws \" + e.getClass().getSimpleName()); }\n";
  }

  /** The example is compiled, as it stands, too, and run. */
  private static List<?> answers(List<String> lines, String body) throws Exception {
    String source = "import java.util.*;\n"
        + "public final class ReadmeExample {\n"
        + "static void asItStands() {\n" + String.join("\n", lines) + "\n}\n"
        + "static String told(Object o) { return o instanceof String ? \"\\\"\" + o + \"\\\"\" : \"\" + o; }\n"
        + "public static List<String> answers() {\n"
        + "List<String> answers = new ArrayList<>();\n" + FIRST + "\n" + body + "return answers;\n}\n}\n";
    Path folder = Files.createTempDirectory("readme");
    try {
      Path file = Files.writeString(folder.resolve("ReadmeExample.java"), source);
      int code = ToolProvider.getSystemJavaCompiler().run(null, null, null, "--release", "17", "-cp",
          System.getProperty("java.class.path"), "-d", folder.toString(), file.toString());
      due.is("exit code of javac", code, 0);
      try (URLClassLoader loader = new URLClassLoader(new URL[] {folder.toUri().toURL()})) {
        return (List<?>) loader.loadClass("ReadmeExample").getMethod("answers").invoke(null);
      }
    } finally {
      remove(folder);
    }
  }

  private static void remove(Path folder) throws IOException {
    List<Path> files = new ArrayList<>();
    try (var listed = Files.list(folder)) {
      listed.forEach(files::add);
    }
    for (Path file : files) {
      Files.delete(file);
    }
    Files.delete(folder);
  }

  private static void tableNamesTheFace(List<String> readme) {
    due.about("README.md, the table of methods");
    List<String> rows = new ArrayList<>();
    for (String line : readme) {
      Matcher m = ROW.matcher(line);
      if (m.matches()) {
        int takes = m.group(3).isEmpty() ? 0 : m.group(3).split(",").length;
        rows.add(m.group(2) + " takes " + takes);
        due.is("promise of " + m.group(2), Integer.parseInt(m.group(1)), rows.size() + 1);
      }
    }
    due.is("rows", rows.size(), 24);
    for (Method m : Undermost.class.getDeclaredMethods()) {
      if (Modifier.isPublic(m.getModifiers())) {
        String row = m.getName() + " takes " + m.getParameterCount();
        due.is("there is: " + row, rows.contains(row), true);
      }
    }
  }
}
