import java.io.IOException;
import java.lang.reflect.Constructor;
import java.lang.reflect.Field;
import java.lang.reflect.Method;
import java.lang.reflect.Modifier;
import java.nio.file.Files;
import java.nio.file.Path;
import java.util.ArrayList;
import java.util.List;
import java.util.Set;
import java.util.TreeSet;
import java.util.regex.Matcher;
import java.util.regex.Pattern;

/** The face of the class, and the rules of LANGUAGE.md that can be seen in its text. */
public final class LanguageTest {
  private static final Path SOURCE = Path.of("src/main/java/UmpireLost.java"), DOCUMENT = Path.of("../shared/DOC.md");
  private static int wrong = 0;

  public static void main(String[] args) throws IOException {
    String source = Files.readString(SOURCE), document = Files.readString(DOCUMENT);
    face(document);
    insides();
    words(source.replaceAll("(?s)/\\*.*?\\*/", "").replaceAll("//[^\n]*", ""));
    lengths(source);
    System.out.println("face and rules, " + wrong + " wrong");
    if (wrong != 0) {
      System.exit(1);
    }
  }

  private static void check(boolean right, String what) {
    if (!right) {
      wrong++;
      System.out.println(what);
    }
  }

  private static void face(String document) {
    Set<String> due = new TreeSet<>(), is = new TreeSet<>();
    Matcher m = Pattern.compile("    public (int|long) (\\w+)\\(([^)]*)\\);").matcher(document);
    while (m.find()) {
      due.add(m.group(1) + " " + m.group(2) + "(" + m.group(3).replaceAll(" \\w+(,|$)", "$1").replace(", ", ",") + ")");
    }
    for (Method method : UmpireLost.class.getDeclaredMethods()) {
      if (Modifier.isPrivate(method.getModifiers())) {
        continue;
      }
      List<String> types = new ArrayList<>();
      for (Class<?> type : method.getParameterTypes()) {
        types.add(type.getName());
      }
      check(Modifier.isPublic(method.getModifiers()), method + " is neither public nor private");
      is.add(method.getReturnType() + " " + method.getName() + "(" + String.join(",", types) + ")");
    }
    check(due.size() == 39, "the document's face was not read: " + due.size());
    check(due.equals(is), "the face is " + is + ", due is " + due);
    Constructor<?>[] constructors = UmpireLost.class.getDeclaredConstructors();
    check(constructors.length == 1 && constructors[0].getParameterCount() == 0, "one constructor without arguments");
    check(Modifier.isFinal(UmpireLost.class.getModifiers()), "the class is final");
  }

  private static void insides() {
    Set<String> constants = new TreeSet<>(), publicNames = new TreeSet<>();
    for (Field field : UmpireLost.class.getDeclaredFields()) {
      if (!Modifier.isPrivate(field.getModifiers())) {
        constants.add(field.getName());
      }
    }
    check(constants.toString().equals("[BAD, FULL, NOT, STATE, VOID]"), "constants " + constants);
    for (Method method : UmpireLost.class.getMethods()) {
      publicNames.add(method.getName());
    }
    List<Class<?>> classes = new ArrayList<>(List.of(UmpireLost.class.getDeclaredClasses()));
    check(classes.size() <= 11, "twelve classes at most");
    classes.add(UmpireLost.class);
    for (Class<?> each : classes) {
      int fields = 0;
      for (Field field : each.getDeclaredFields()) {
        check(!Modifier.isStatic(field.getModifiers()) || Modifier.isFinal(field.getModifiers()), field + " is not final");
        fields += Modifier.isStatic(field.getModifiers()) ? 0 : 1;
      }
      check(fields <= 20, each + " has too many fields");
      for (Method method : each.getDeclaredMethods()) {
        check(method.getParameterCount() <= 7, method + " has too many parameters");
        boolean isFace = each == UmpireLost.class && Modifier.isPublic(method.getModifiers());
        check(isFace || !publicNames.contains(method.getName()), method + " bears a public one's name");
      }
      check(each == UmpireLost.class || Modifier.isStatic(each.getModifiers()), each + " is not static");
      // So no constructor hands out a part of what is being made.
      for (Constructor<?> constructor : each.getDeclaredConstructors()) {
        check(constructor.getParameterCount() == 0, constructor + " takes something");
      }
    }
  }

  private static void words(String code) {
    String[] forbidden = {"throw", "throws", "try", "catch", "finally", "synchronized", "assert", "import", "package", "protected",
      "double", "float", "Object", "var", "transient", "volatile", "native", "Exact", "hashCode", "toString", "instanceof"};
    for (String word : forbidden) {
      check(!Pattern.compile("\\b" + word + "\\b").matcher(code).find(), "the word " + word);
    }
    check(!code.contains("->") && !code.contains("::"), "a lambda or a method reference");
    check(!code.contains("Exact("), "a function whose name ends in Exact");
    Matcher m = Pattern.compile("\\b([A-Z]\\w+)\\.([a-z]\\w*)\\(").matcher(code);
    Set<String> allowed = Set.of("Math.min", "Math.max", "Integer.bitCount", "System.arraycopy", "Stools.isKind", "Stools.isUnder");
    while (m.find()) {
      check(allowed.contains(m.group(1) + "." + m.group(2)), "calls " + m.group());
    }
    // All calls of a run live in one room: only constructors and fields make anything.
    for (String line : code.split("\n")) {
      boolean isField = line.matches("( {2}| {4})(private )?(final )?\\w+(\\[])? \\w+ = new .*");
      check(!line.contains(" new ") || isField || line.trim().equals("shelves[i] = new Shelf();"), "makes: " + line.trim());
    }
    check(!Pattern.compile("while \\(true\\)|for \\(;;").matcher(code).find(), "a loop without an end");
    check(code.chars().allMatch(c -> c < 128), "signs beyond 127");
  }

  private static void lengths(String source) {
    int start = 0, line = 0;
    for (String text : source.split("\n")) {
      line++;
      if (text.matches("( {2}| {4})(public|private|static|boolean|int|long|void)\\b.*\\) \\{")) {
        start = line;
      } else if (text.matches("( {2}| {4})}") && start > 0) {
        check(line - start < 60, "a method of " + (line - start) + " lines at line " + start);
        start = 0;
      }
      check(text.length() <= 130, "line " + line + " is long");
    }
  }
}
