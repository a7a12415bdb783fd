import java.io.File;
import java.io.IOException;
import java.lang.reflect.Method;
import java.nio.file.Files;
import java.nio.file.Path;
import java.util.ArrayList;
import java.util.Comparator;
import java.util.List;
import java.util.regex.Matcher;
import java.util.regex.Pattern;
import java.util.stream.Stream;
import javax.tools.ToolProvider;

/** README.md's example, taken from the page, compiled and run: each of its calls answers what stands behind it. */
public final class ReadmeTest {
  private static final Pattern PIECE = Pattern.compile("^```java\\n(.*?)^```$", Pattern.DOTALL | Pattern.MULTILINE);
  /** A call, put into a variable or not, and the answer that the page tells. */
  private static final Pattern CALL =
      Pattern.compile("((?:int )?\\w+ = )?(x\\.(\\w+)\\(.*\\));\\s+// (-?\\d+|throws (\\w+))(?:: .*)?");
  private static final String MAKES = "SignCategories x = new SignCategories();";
  /** Calls in a loop stand without an answer. */
  private static final Pattern LOOP = Pattern.compile("for \\(.*\\) \\{|  x\\.\\w+\\(.*\\);|\\}");

  public static void main(String[] args) throws Exception {
    Due due = new Due();
    String page = Files.readString(Path.of("README.md"));
    List<String> example = example(page);
    due.is("objects made in the example", example.stream().filter(MAKES::equals).count(), 1);
    StringBuilder body = new StringBuilder();
    List<String> called = new ArrayList<>();
    for (String line : example) {
      body.append(asTest(due, line, called));
    }
    for (Method method : SignCategories.class.getMethods()) {
      if (method.getDeclaringClass() == SignCategories.class) {
        due.holds("the example calls " + method.getName(), called.contains(method.getName()));
      }
    }
    due.holds("the page tells for how many calls an object is used", page.contains("at most 512 calls"));
    run(due, body.toString());
    due.end("ReadmeTest");
  }

  /** The lines of all pieces, one behind the other, as the page says that they are to be read. */
  private static List<String> example(String page) {
    List<String> lines = new ArrayList<>();
    Matcher piece = PIECE.matcher(page);
    while (piece.find()) {
      for (String line : piece.group(1).split("\n")) {
        if (!line.isBlank()) {
          lines.add(line);
        }
      }
    }
    return lines;
  }

  private static String asTest(Due due, String line, List<String> called) {
    if (line.equals(MAKES) || LOOP.matcher(line).matches()) {
      return line + "\n";
    }
    Matcher call = CALL.matcher(line);
    if (!call.matches()) {
      due.holds("a call with its answer: " + line, false);
      return "";
    }
    called.add(call.group(3));
    String words = "\"" + line.replaceAll("\\s+//.*", "").replace("\"", "\\\"") + "\"";
    if (call.group(5) != null) {
      return "{ String thrown = \"nothing\"; try { " + call.group(2) + "; } catch (RuntimeException e) "
          + "{ thrown = e.getClass().getSimpleName(); } due.same(\"what is thrown by \" + " + words + ", thrown, \""
          + call.group(5) + "\"); }\n";
    }
    if (call.group(1) == null) {
      return "due.is(" + words + ", " + call.group(2) + ", " + call.group(4) + ");\n";
    }
    String variable = call.group(1).replaceAll("^int | = $", "");
    return call.group(1) + call.group(2) + ";\ndue.is(" + words + ", " + variable + ", " + call.group(4) + ");\n";
  }

  /** The example as a program of its own, whose exit code tells whether all its answers are as due. */
  private static void run(Due due, String body) throws Exception {
    Path work = Files.createTempDirectory("readme");
    try {
      Path source = work.resolve("ReadmeExample.java");
      Files.writeString(source, "public final class ReadmeExample {\npublic static void main(String[] args) {\n"
          + "Due due = new Due();\n" + body + "due.end(\"ReadmeExample\");\n}\n}\n");
      String classes = System.getProperty("java.class.path") + File.pathSeparator + work;
      String[] options = {"-cp", classes, "-d", work.toString(), source.toString()};
      int compiled = ToolProvider.getSystemJavaCompiler().run(null, null, null, options);
      due.is("javac at the example", compiled, 0);
      if (compiled == 0) {
        String java = Path.of(System.getProperty("java.home"), "bin", "java").toString();
        Process ran = new ProcessBuilder(java, "-cp", classes, "ReadmeExample").inheritIO().start();
        due.is("the example's exit code", ran.waitFor(), 0);
      }
    } finally {
      remove(work);
    }
  }

  private static void remove(Path work) throws IOException {
    try (Stream<Path> all = Files.walk(work)) {
      for (Path path : all.sorted(Comparator.reverseOrder()).toList()) {
        Files.delete(path);
      }
    }
  }
}
