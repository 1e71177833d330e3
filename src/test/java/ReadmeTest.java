import java.io.IOException;
import java.lang.reflect.Field;
import java.lang.reflect.Method;
import java.lang.reflect.Modifier;
import java.nio.file.Files;
import java.nio.file.Path;
import java.util.ArrayList;
import java.util.List;
import java.util.Set;
import java.util.TreeSet;
import java.util.regex.Matcher;
import java.util.regex.Pattern;
import java.util.stream.Stream;

/** What README.md shows of the class's use is so, and it tells how the tests are run. */
public final class ReadmeTest {
  private static final Path PAGE = Path.of("README.md"), TESTS = Path.of("src/test/java");
  private static final Pattern MAKING = Pattern.compile("UmpireLost x = new UmpireLost\\(\\);");
  private static final Pattern CALL = Pattern.compile("x\\.(\\w+)\\(([^()]*)\\);\\s+// ([-\\w.]+)(: \\S.*)?");
  private static final int MOST_CALLS = 512;

  private static UmpireLost x = null;
  private static int calls = 0, wrong = 0;

  public static void main(String[] args) throws IOException, ReflectiveOperationException {
    String page = Files.readString(PAGE);
    Set<String> shown = new TreeSet<>();
    int made = 0;
    for (String line : linesOf(page, "java")) {
      if (MAKING.matcher(line).matches()) {
        x = new UmpireLost();
        made++;
      } else {
        call(line, shown);
      }
    }
    check(made == 1, "one object is shown from its making on: " + made);
    check(calls <= MOST_CALLS, "more calls than an object is made for: " + calls);
    wholeFace(shown);
    refusals(page);
    howToRun(page);
    System.out.println(calls + " calls that the page shows, " + wrong + " wrong");
    if (wrong != 0) {
      System.exit(1);
    }
  }

  private static void check(boolean right, String what) {
    if (!right) {
      wrong++;
      System.out.println("README.md: " + what);
    }
  }

  /** The lines of all pieces in a language; a blank line is none. */
  private static List<String> linesOf(String page, String language) {
    List<String> lines = new ArrayList<>();
    Matcher piece = Pattern.compile("(?ms)^```" + language + "\\n(.*?)^```$").matcher(page);
    while (piece.find()) {
      for (String line : piece.group(1).split("\n")) {
        if (!line.isBlank()) {
          lines.add(line.trim());
        }
      }
    }
    return lines;
  }

  private static void call(String line, Set<String> shown) throws ReflectiveOperationException {
    Matcher m = CALL.matcher(line);
    if (!m.matches() || x == null) {
      check(false, "no call with its answer: " + line);
      return;
    }
    String[] told = m.group(2).isEmpty() ? new String[0] : m.group(2).split(", ");
    Method method = methodOf(m.group(1), told.length);
    if (method == null) {
      check(false, "no such call: " + line);
      return;
    }
    Object[] values = new Object[told.length];
    for (int i = 0; i < told.length; i++) {
      long value = valueOf(told[i]);
      if (method.getParameterTypes()[i] == long.class) {
        values[i] = value;
      } else {
        values[i] = Math.toIntExact(value);
      }
    }
    long got = ((Number) method.invoke(x, values)).longValue();
    check(got == answerOf(m.group(3)), line + " -- but it answers " + got);
    shown.add(m.group(1));
    calls++;
  }

  private static Method methodOf(String name, int parameters) {
    for (Method method : UmpireLost.class.getDeclaredMethods()) {
      boolean isFace = Modifier.isPublic(method.getModifiers());
      if (isFace && method.getName().equals(name) && method.getParameterCount() == parameters) {
        return method;
      }
    }
    return null;
  }

  /** A letter, a number, or a sum of numbers. */
  private static long valueOf(String told) {
    if (told.matches("'.'")) {
      return told.charAt(1);
    }
    long sum = 0;
    for (String part : told.split(" \\+ ")) {
      sum += Long.parseLong(part);
    }
    return sum;
  }

  private static long answerOf(String told) throws ReflectiveOperationException {
    if (told.equals("Long.MIN_VALUE")) {
      return Long.MIN_VALUE;
    }
    return told.matches("[A-Z]+") ? UmpireLost.class.getField(told).getInt(null) : Long.parseLong(told);
  }

  private static void wholeFace(Set<String> shown) {
    for (Method method : UmpireLost.class.getDeclaredMethods()) {
      if (Modifier.isPublic(method.getModifiers())) {
        check(shown.contains(method.getName()), "does not show " + method.getName());
      }
    }
  }

  private static void refusals(String page) throws ReflectiveOperationException {
    for (Field field : UmpireLost.class.getFields()) {
      String due = "- `" + field.getName() + "` (" + field.getInt(null) + "): ";
      check(page.contains(due), "does not tell " + due);
    }
    Matcher places = Pattern.compile("(?m)^- -11: .*; -12: .*; -13: .*; -14: .*$").matcher(page);
    check(places.find(), "does not tell -11 to -14");
  }

  private static void howToRun(String page) throws IOException {
    List<String> commands = linesOf(page, "sh");
    check(commands.contains("bash .ci/run"), "does not tell how all tests are run");
    check(Files.isRegularFile(Path.of(".ci/run")), "no .ci/run");
    check(commands.contains("java -cp out PromiseTest"), "does not tell how one test is run");
    for (String command : commands) {
      for (String word : command.split(" ")) {
        boolean isFile = word.startsWith("src/") && !word.contains("*");
        check(!isFile || Files.exists(Path.of(word)), "no such file: " + word);
      }
    }
    Set<String> tests = new TreeSet<>();
    try (Stream<Path> files = Files.list(TESTS)) {
      files.forEach(file -> tests.add(file.getFileName().toString().replace(".java", "")));
    }
    for (String test : tests) {
      check(page.contains("`" + test + "`"), "does not name " + test);
    }
    Matcher named = Pattern.compile("`(\\w+(?:Test|Sentences))`").matcher(page);
    while (named.find()) {
      check(tests.contains(named.group(1)), "no such test: " + named.group(1));
    }
  }
}
