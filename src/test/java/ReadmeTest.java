import java.io.ByteArrayOutputStream;
import java.io.File;
import java.io.PrintStream;
import java.lang.reflect.Method;
import java.lang.reflect.Modifier;
import java.net.URL;
import java.net.URLClassLoader;
import java.nio.charset.StandardCharsets;
import java.nio.file.Files;
import java.nio.file.Path;
import java.util.TreeSet;
import java.util.regex.Matcher;
import java.util.regex.Pattern;
import javax.tools.ToolProvider;

/** What README.md says is so. Runs where .ci/run runs it: in the checkout's first directory. */
public final class ReadmeTest {
  public static void main(String[] args) throws Exception {
    String readme = Files.readString(Path.of("README.md"), StandardCharsets.UTF_8);
    programPrintsWhatStandsUnderIt(readme);
    callsAreThoseOfTheFace(readme);
    Checks.due("parts", parts(), listed(section(readme, "How it works")));
    Checks.due("tests", tests(), listed(section(readme, "How to run the tests")));
    Checks.due(".ci/run is there to be run", true, new File(".ci/run").canExecute());
    whereTheDocumentLeavesRoom();
    Checks.end("ReadmeTest");
  }

  private static void programPrintsWhatStandsUnderIt(String readme) throws Exception {
    String printed = printedBy(block(readme, "java"));
    Checks.due("what the program prints", trimmed(block(readme, "text")), trimmed(printed));
  }

  /**
   * Compiled and run as it stands, so that no line of it can be wrong unseen; beside the other classes, which
   * .ci/run throws away in the end.
   */
  private static String printedBy(String program) throws Exception {
    String classes = System.getProperty("java.class.path");
    Path room = Files.createTempDirectory(Path.of(classes), "readme");
    Path source = room.resolve("Example.java");
    Files.writeString(source, "public class Example { public static void main(String[] a) {\n" + program + "}}\n");
    int failed = ToolProvider.getSystemJavaCompiler().run(null, null, null,
        "-cp", classes, "-d", room.toString(), source.toString());
    Checks.due("compiling the program", 0, failed);
    return failed == 0 ? run(room) : "";
  }

  private static String run(Path room) throws Exception {
    PrintStream before = System.out;
    ByteArrayOutputStream printed = new ByteArrayOutputStream();
    try (URLClassLoader loader = new URLClassLoader(new URL[] {room.toUri().toURL()})) {
      System.setOut(new PrintStream(printed, true, StandardCharsets.UTF_8));
      loader.loadClass("Example").getMethod("main", String[].class).invoke(null, (Object) new String[0]);
    } finally {
      System.setOut(before);
    }
    return printed.toString(StandardCharsets.UTF_8);
  }

  /** Each call has its line, with as many numbers and with the exceptions that it may throw, and no other. */
  private static void callsAreThoseOfTheFace(String readme) {
    TreeSet<String> want = new TreeSet<>();
    for (Method m : RingWeaver.class.getDeclaredMethods()) {
      if (Modifier.isPublic(m.getModifiers())) {
        TreeSet<String> thrown = new TreeSet<>();
        for (Class<?> e : m.getExceptionTypes()) {
          thrown.add(e.getSimpleName());
        }
        want.add(m.getName() + " " + m.getParameterCount() + " " + thrown);
      }
    }
    TreeSet<String> seen = new TreeSet<>();
    Matcher line = Pattern.compile("(?m)^\\| `(\\w+)\\(([^)]*)\\)` \\|(.*)\\|(.*)\\|$").matcher(readme);
    while (line.find()) {
      int numbers = line.group(2).isEmpty() ? 0 : line.group(2).split(",").length;
      seen.add(line.group(1) + " " + numbers + " " + all("`(\\w+Exception)`", line.group(4)));
    }
    Checks.due("calls", want, seen);
  }

  private static TreeSet<String> parts() {
    TreeSet<String> names = new TreeSet<>();
    for (Class<?> inside : RingWeaver.class.getDeclaredClasses()) {
      names.add(inside.getSimpleName());
    }
    return names;
  }

  private static TreeSet<String> tests() {
    TreeSet<String> names = new TreeSet<>();
    String[] files = new File("src/test/java").list();
    for (String file : files == null ? new String[0] : files) {
      if (file.endsWith("Test.java")) {
        names.add(file.substring(0, file.length() - ".java".length()));
      }
    }
    return names;
  }

  /** "Where the document leaves room, the class does this". */
  private static void whereTheDocumentLeavesRoom() {
    RingWeaver w = Checks.line(new RingWeaver(), 1, 0, 0, 4, 0, 0, 4);
    Checks.line(w, 1, 0, 0, 4, 0, 0, 4);
    Checks.due("a piece without marks is counted", 3, w.count(0));
    Checks.due("and still in the way", Checks.ISE, Checks.piece(w, 1, -1, 1, 1, 1));
    Checks.due("an empty result", "0 | 6 0 | | 0", Checks.overlaid(w, 1));
    Checks.line(w, 2, 0, 0, 4, 0, 0, 4);
    Checks.noResult("without a result", w);
    String result = Checks.overlaid(w, 4);
    Checks.due("a piece that throws", Checks.IAE, Checks.piece(w, 0, 0, 0, 0, 1));
    Checks.due("a piece that throws", Checks.ISE, Checks.piece(w, 1, -1, 1, 1, 1));
    Checks.due("leaves the pieces", 3, w.count(0));
    Checks.due("and the result", result, w.count(3) + " | " + Checks.told(w) + " | " + w.area());
    Checks.due("an overlay that throws", Checks.IAE, Checks.overlay(w, 5));
    Checks.noResult("an overlay of another what", w);
    w.overlay(4);
    w.piece(0, 0, 4, 0, 1);
    Checks.due("an overlay that throws", Checks.ISE, Checks.overlay(w, 4));
    Checks.noResult("an overlay of an open drawing", w);
  }

  private static String block(String readme, String language) {
    Matcher found = Pattern.compile("(?s)```" + language + "\n(.*?)```").matcher(readme);
    return found.find() ? found.group(1) : "no " + language + " block";
  }

  private static String section(String readme, String title) {
    Matcher found = Pattern.compile("(?s)\n## " + title + "\n(.*?)(\n## |$)").matcher(readme);
    return found.find() ? found.group(1) : "";
  }

  private static TreeSet<String> listed(String section) {
    return all("(?m)^- `(\\w+)`:", section);
  }

  private static TreeSet<String> all(String pattern, String text) {
    TreeSet<String> names = new TreeSet<>();
    Matcher found = Pattern.compile(pattern).matcher(text);
    while (found.find()) {
      names.add(found.group(1));
    }
    return names;
  }

  /** The ends of lines hold blanks that a reader does not see. */
  private static String trimmed(String text) {
    return text.replaceAll("(?m)[ \r]+$", "").strip();
  }
}
