import java.lang.reflect.Method;
import java.lang.reflect.Modifier;
import java.math.BigInteger;
import java.util.ArrayList;
import java.util.Arrays;
import java.util.HashMap;
import java.util.List;
import java.util.Map;
import java.util.Random;

/** Long runs of calls against a second, slow and plain reading of the document. */
public final class ModelTest {
  private static final int RUNS = 1500, CALLS = 512;
  private static final long NONE = Long.MIN_VALUE;
  private static int wrong = 0;

  public static void main(String[] args) throws ReflectiveOperationException {
    Map<String, Integer> answers = new HashMap<>();
    for (int run = 0; run < RUNS && wrong < 10; run++) {
      runOf(new Random(7919L * run + 1), run, answers);
    }
    texts(new Random(5));
    System.out.println(RUNS + " runs, " + answers.values().stream().mapToInt(n -> n).sum() + " calls, " + wrong + " wrong");
    if (wrong != 0) {
      System.exit(1);
    }
  }

  private static void runOf(Random r, int run, Map<String, Integer> answers) throws ReflectiveOperationException {
    UmpireLost x = new UmpireLost();
    Model m = new Model();
    List<String> told = new ArrayList<>();
    Feeder feeder = new Feeder(r);
    int most = run % 3 == 0 ? 10 : run % 3 == 1 ? 6 : 4;
    for (int i = 0; i < most; i++) {
      int skill = r.nextInt(10);
      x.player(skill);
      m.player(skill);
    }
    Caller ofModel = new Caller(m), ofClass = new Caller(x);
    for (int call = 0; call < CALLS - most; call++) {
      int[] a = feeder.next(m);
      String name = Caller.NAMES[a[0]];
      long want = ofModel.call(a), got = ofClass.call(a);
      told.add(name + Arrays.toString(Arrays.copyOfRange(a, 1, a.length)) + " = " + want);
      answers.merge(name, 1, Integer::sum);
      if (want != got) {
        wrong++;
        System.out.println("run " + run + ", call " + call + ": " + told.get(call) + ", but answered " + got);
        return;
      }
    }
  }

  /** Texts alone: many more than runs hold, most of them nearly right. */
  private static void texts(Random r) {
    UmpireLost x = new UmpireLost();
    Model m = new Model();
    for (int i = 0; i < 60000 && wrong < 10; i++) {
      // Anew now and then, as an object is used for 512 calls at most.
      if (i % 5 == 0) {
        x = new UmpireLost();
        m = new Model();
        fourPlayers(x, m);
      }
      String text = Feeder.text(r);
      for (int j = 0; j < text.length(); j++) {
        x.feed(text.charAt(j));
        m.feed(text.charAt(j));
      }
      int want = m.law(), got = x.law();
      int abu = r.nextBoolean() ? 12 : 321;
      int wantOdds = m.odds(abu), gotOdds = x.odds(abu);
      if (want != got || wantOdds != gotOdds) {
        wrong++;
        System.out.println("text " + text + ": " + got + ", due is " + want + "; odds " + gotOdds + ", due " + wantOdds);
      }
    }
  }

  private static void fourPlayers(UmpireLost x, Model m) {
    for (int i = 0; i < 4; i++) {
      x.player(3 + i);
      m.player(3 + i);
      x.mend(i, 2, 3 * i + 1);
      m.mend(i, 2, 3 * i + 1);
      x.mend(i, 1, 31 * i);
      m.mend(i, 1, 31 * i);
    }
  }

  /** What to call next: mostly what can be answered, now and then what cannot. */
  private static final class Feeder {
    private final Random r;
    private String rest = "";
    private final List<int[]> planned = new ArrayList<>();

    Feeder(Random r) {
      this.r = r;
    }

    private int near(int least, int most) {
      int[] odd = {least - 1, most + 1, Integer.MAX_VALUE, Integer.MIN_VALUE, -1};
      return r.nextInt(25) == 0 ? odd[r.nextInt(odd.length)] : least + r.nextInt(Math.max(1, most - least + 1));
    }

    private int abu(Model m) {
      if (r.nextInt(25) == 0) {
        return near(0, 999);
      }
      int n = Math.max(1, m.skill.size());
      int a = r.nextInt(n), b = r.nextInt(n), u = r.nextInt(n);
      if (r.nextInt(3) != 0) {
        for (int i = 0; i < 20 && (a == b || a == u || b == u || !m.lostYesterday(u) && i < 15); i++) {
          a = r.nextInt(n);
          b = r.nextInt(n);
          u = r.nextInt(n);
        }
      }
      return 100 * a + 10 * b + u;
    }

    int[] next(Model m) {
      int n = m.skill.size();
      if (!rest.isEmpty()) {
        char letter = rest.charAt(0);
        rest = rest.substring(1);
        return letter == 'L' ? new int[] {6} : new int[] {5, letter};
      }
      if (!planned.isEmpty()) {
        return planned.remove(0);
      }
      switch (r.nextInt(63)) {
        case 60: return card(m, r.nextInt(3));
        case 61: return row(r.nextInt(3), n, 2 * r.nextInt(24));
        case 62: return row(r.nextInt(3), 2, r.nextInt(11));
        case 0: return new int[] {1, near(0, 9)};
        case 1: return new int[] {2, near(0, 5), near(0, 6), near(1, 10)};
        case 2: case 3: case 4: case 5: case 6: case 7: {
          int what = near(0, 5);
          int[] most = {9, 99, 255, 3, 99, 1000};
          int v = what >= 0 && what < 6 ? near(0, most[what]) : 0;
          return new int[] {3, what >= 4 ? near(0, 0) : near(0, n - 1), what, what == 2 && r.nextBoolean() ? v | 1 : v};
        }
        case 8: return new int[] {4, near(0, n - 1), near(0, 5)};
        case 9: return new int[] {4, 0, 4 + r.nextInt(2)};
        case 10:
          if (r.nextInt(6) == 0) {
            rest = text(r) + "L";
          }
          return new int[] {5, near(0, 255)};
        case 11: return new int[] {6};
        case 12: case 13: return new int[] {7, abu(m)};
        case 14: return new int[] {8};
        case 15: return new int[] {9, r.nextInt(10) == 0 ? near(0, 99) : abu(m) % 100};
        case 16: return new int[] {10, near(0, 2)};
        case 17: return new int[] {11, near(0, 2)};
        case 18: case 19: {
          int what = near(0, 3);
          return new int[] {12, near(0, 2), near(0, 20), what >= 2 ? near(0, 0) : near(0, n - 1), what};
        }
        case 20: case 21: return new int[] {13, near(-1, 3)};
        case 22: return new int[] {14, near(0, n - 1)};
        case 23: return new int[] {15, near(0, 2), near(-1, n)};
        case 24: return new int[] {16, near(0, 2)};
        case 25: case 26: return new int[] {17, near(0, 2), abu(m), near(0, 1)};
        case 27: return new int[] {18};
        case 28: return new int[] {19, abu(m), near(0, 6), near(0, 1)};
        case 29: return new int[] {20, abu(m), near(1, 5), near(0, 1)};
        case 30: return new int[] {21, r.nextInt(), near(0, 2), 100 * near(1, 30) + near(1, 20), near(-1, n - 1)};
        case 31: case 32: case 33: case 34: return new int[] {22, abu(m)};
        case 35: return new int[] {23, near(0, n - 1)};
        case 36: return new int[] {24};
        case 37: return new int[] {25, near(0, 4)};
        case 38: return r.nextInt(3) == 0 ? new int[] {26} : new int[] {25, r.nextInt(5)};
        case 39: return r.nextInt(4) == 0 ? new int[] {27} : new int[] {8};
        case 40: case 41: return new int[] {28};
        case 42: case 43: return new int[] {29};
        case 44: return new int[] {30, near(0, 7)};
        case 45: case 46: return new int[] {31, near(0, m.bodies.size() - 1), near(0, 3), r.nextInt()};
        case 47: return new int[] {32, near(0, 14)};
        case 48: return new int[] {33, near(0, 5), near(-1, m.bodies.size() - 1)};
        case 49: return new int[] {34, near(0, 5), r.nextInt(3) != 0 ? r.nextInt(2) : near(0, 4), near(0, 60)};
        case 50: case 51: case 52: case 53: case 54: case 55: return put(n);
        case 56: return new int[] {36, near(0, 5), near(0, 59)};
        case 57: return new int[] {37, near(0, 5), near(0, 20), near(0, 5), near(0, 20), near(0, 30)};
        case 58: return new int[] {38, near(0, 5), near(0, 7)};
        default: return new int[] {39, near(0, 5)};
      }
    }

    private int[] put(int n) {
      int v = r.nextInt(10) == 0 ? r.nextInt() : r.nextInt(Math.max(1, n));
      return new int[] {35, r.nextInt(3) != 0 ? r.nextInt(3) : near(0, 5), r.nextBoolean() ? r.nextInt(9) : near(0, 59), v};
    }

    /** A card whose matches mostly can be held, and some calls that read it. */
    private int[] card(Model m, int shelf) {
      int n = m.skill.size();
      List<Integer> order = new ArrayList<>();
      for (int i = 0; i < n; i++) {
        order.add(i);
      }
      java.util.Collections.shuffle(order, r);
      int length = r.nextInt(8) == 0 ? r.nextInt(n + 1) : n / 3 * 3;
      for (int i = 0; i < length; i++) {
        planned.add(new int[] {35, shelf, i, order.get(i)});
        if (i % 3 == 2 && r.nextInt(4) != 0) {
          planned.add(new int[] {3, order.get(i), 2, r.nextInt(128) * 2 + 1});
        }
      }
      for (int i = r.nextInt(6); i > 0; i--) {
        int days = 1 + r.nextInt(4);
        planned.add(new int[] {10 + r.nextInt(2), shelf});
        planned.add(new int[] {12, shelf, days, 0, 2 + r.nextInt(2)});
        planned.add(new int[] {12, shelf, days, r.nextInt(n), r.nextInt(2)});
        planned.add(new int[] {21, r.nextInt(), shelf, 100 * (1 + r.nextInt(30)) + 1 + r.nextInt(20), r.nextInt(n + 1) - 1});
      }
      return new int[] {34, shelf, 0, length};
    }

    private int[] row(int shelf, int below, int length) {
      for (int i = 0; i < length; i++) {
        planned.add(new int[] {35, shelf, i, r.nextInt(30) == 0 ? -1 : r.nextInt(below)});
      }
      planned.add(new int[] {15, shelf, r.nextInt(below + 1) - 1});
      planned.add(new int[] {16, shelf});
      return new int[] {34, shelf, 0, length};
    }

    static String text(Random r) {
      StringBuilder text = new StringBuilder();
      line(r, text);
      while (r.nextInt(3) == 0 && text.length() < 40) {
        text.append(';');
        line(r, text);
      }
      if (text.length() > 60) {
        text.setLength(60);
      }
      int slips = r.nextInt(3) == 0 ? 1 + r.nextInt(2) : 0;
      String signs = "0123456789abglmd!-()+*/%<=>&|?;cx ";
      for (int i = 0; i < slips && text.length() > 0; i++) {
        int at = r.nextInt(text.length());
        char sign = signs.charAt(r.nextInt(signs.length()));
        int way = r.nextInt(3);
        if (way == 0) {
          text.setCharAt(at, sign);
        } else if (way == 1) {
          text.insert(at, sign);
        } else {
          text.deleteCharAt(at);
        }
      }
      return text.toString();
    }

    private static void line(Random r, StringBuilder text) {
      expression(r, text, 0);
      if (r.nextInt(2) == 0) {
        text.append('?');
        expression(r, text, 0);
      }
    }

    private static void expression(Random r, StringBuilder text, int depth) {
      String joins = "|&<=>+-*/%";
      operand(r, text, depth);
      for (int i = r.nextInt(4); i > 0 && text.length() < 50; i--) {
        text.append(joins.charAt(r.nextInt(joins.length())));
        operand(r, text, depth);
      }
    }

    private static void operand(Random r, StringBuilder text, int depth) {
      int way = r.nextInt(8);
      if (way < 3) {
        text.append("abglmd".charAt(r.nextInt(6)));
      } else if (way < 5 || depth > 8) {
        text.append(r.nextInt(r.nextBoolean() ? 13 : r.nextInt(20) == 0 ? 12000 : 10000));
      } else if (way == 5) {
        text.append('(');
        expression(r, text, depth + 1);
        text.append(')');
      } else {
        text.append(way == 6 ? '!' : '-');
        operand(r, text, depth + 1);
      }
    }
  }

  /** A call by its number, with its arguments behind. */
  private static final class Caller {
    static final String[] NAMES = {"", "player", "players", "mend", "of", "feed", "law", "odds", "judges", "bestJudge", "held",
      "loses", "behind", "atOnce", "tomorrow", "order", "ring", "thrownBy", "three", "streak", "byTurns", "drawn", "match",
      "lemonade", "day", "led", "image", "back", "undo", "redo", "body", "act", "trace", "keep", "row", "put", "element",
      "shift", "taken", "count"};

    private final Object target;
    private final Method[] methods = new Method[NAMES.length];

    Caller(Object target) {
      this.target = target;
      for (int i = 1; i < NAMES.length; i++) {
        for (Method method : target.getClass().getDeclaredMethods()) {
          if (method.getName().equals(NAMES[i]) && !Modifier.isPrivate(method.getModifiers())) {
            methods[i] = method;
          }
        }
      }
    }

    long call(int[] a) throws ReflectiveOperationException {
      Object[] arguments = new Object[a.length - 1];
      for (int i = 0; i < arguments.length; i++) {
        arguments[i] = a[i + 1];
      }
      return ((Number) methods[a[0]].invoke(target, arguments)).longValue();
    }
  }

  /** Texts of a law by spans: what a span of it can be, with its value and how many are open in it at most. */
  private static final class Text {
    private final String text;
    private final int[] names;
    private final Map<Integer, int[]> known = new HashMap<>();

    Text(String text, int[] names) {
      this.text = text;
      this.names = names;
    }

    /** The value and what is open at most, or null; kinds: 0 E, 1 A, 2 B, 3 S, 4 P, 5 O. */
    private int[] span(int kind, int from, int to) {
      if (from >= to) {
        return null;
      }
      int key = (kind * 128 + from) * 128 + to;
      if (!known.containsKey(key)) {
        known.put(key, kind == 5 ? operand(from, to) : joined(kind, from, to));
      }
      return known.get(key);
    }

    private int[] joined(int kind, int from, int to) {
      String[] signs = {"|", "&", "<=>", "+-", "*/%"};
      int[] whole = span(kind + 1, from, to);
      if (whole != null) {
        return whole;
      }
      for (int at = to - 1; at > from; at--) {
        if (signs[kind].indexOf(text.charAt(at)) < 0) {
          continue;
        }
        int[] right = span(kind + 1, at + 1, to);
        int[] left = right == null ? null : span(kind == 2 ? 3 : kind, from, at);
        if (left != null) {
          return new int[] {worked(left[0], text.charAt(at), right[0]), Math.max(left[1], right[1])};
        }
      }
      return null;
    }

    private static int worked(int a, char sign, int b) {
      switch (sign) {
        case '|': return a == 0 && b == 0 ? 0 : 1;
        case '&': return a == 0 || b == 0 ? 0 : 1;
        case '<': return a < b ? 1 : 0;
        case '=': return a == b ? 1 : 0;
        case '>': return a > b ? 1 : 0;
        case '+': return a + b;
        case '-': return a - b;
        case '*': return a * b;
        case '/': return b == 0 ? 0 : (int) ((long) a / b);
        default: return b == 0 ? 0 : (int) ((long) a % b);
      }
    }

    private int[] operand(int from, int to) {
      String part = text.substring(from, to);
      if (part.matches("[0-9]{1,4}")) {
        return new int[] {Integer.parseInt(part), 0};
      }
      if (part.matches("[abglmd]")) {
        return new int[] {names["abglmd".indexOf(part)], 0};
      }
      char first = part.charAt(0);
      int[] inner = null;
      if (first == '(' && part.endsWith(")")) {
        inner = span(0, from + 1, to - 1);
      } else if (first == '!' || first == '-') {
        inner = span(5, from + 1, to);
      }
      if (inner == null || inner[1] >= 6) {
        return null;
      }
      return new int[] {first == '!' ? (inner[0] == 0 ? 1 : 0) : first == '-' ? -inner[0] : inner[0], inner[1] + 1};
    }

    boolean is() {
      for (String line : text.split(";", -1)) {
        String[] parts = line.split("\\?", -1);
        if (parts.length > 2) {
          return false;
        }
        for (String part : parts) {
          if (new Text(part, names).span(0, 0, part.length()) == null) {
            return false;
          }
        }
      }
      return true;
    }

    int value() {
      for (String line : text.split(";", -1)) {
        String[] parts = line.split("\\?", -1);
        int first = new Text(parts[0], names).span(0, 0, parts[0].length())[0];
        if (parts.length == 1) {
          return first;
        }
        if (first != 0) {
          return new Text(parts[1], names).span(0, 0, parts[1].length())[0];
        }
      }
      return 0;
    }

    /** -1 if it is a text. */
    static int fault(String text) {
      int[] names = new int[6];
      if (new Text(text, names).is()) {
        return -1;
      }
      for (int length = 1; length <= text.length(); length++) {
        if (!goesOn(text.substring(0, length), names)) {
          return length - 1;
        }
      }
      return text.length();
    }

    private static boolean goesOn(String start, int[] names) {
      for (int closing = 0; closing <= 6; closing++) {
        String end = ")".repeat(closing);
        if (new Text(start + end, names).is() || new Text(start + "a" + end, names).is()) {
          return true;
        }
      }
      return false;
    }
  }

  // ---- stools as the language itself has them

  private static final List<Integer> TRACE = new ArrayList<>();

  private interface Judges {
    int number();

    default int judges(int x) {
      TRACE.add(1);
      return x + number();
    }
  }

  private interface Tells {
    int calls(int x);

    int loses(int x);

    default int tells(int x) {
      TRACE.add(2);
      return calls(x) - loses(1);
    }
  }

  private static class Stool implements Judges, Tells {
    int number, kind;

    public int number() {
      return number;
    }

    public int calls(int x) {
      TRACE.add(10);
      return judges(x) * 2;
    }

    public int loses(int x) {
      TRACE.add(11);
      return x ^ number;
    }
  }

  private static class Chalk extends Stool {
    public int judges(int x) {
      TRACE.add(20);
      return super.judges(x) + 3;
    }
  }

  private static class Crowd extends Stool {
    public int calls(int x) {
      TRACE.add(30);
      return -super.calls(x);
    }
  }

  private static class Twin extends Crowd {
    public int loses(int x) {
      TRACE.add(40);
      return super.loses(x) * 3;
    }

    public int calls(int x) {
      TRACE.add(41);
      return super.calls(x + 1);
    }
  }

  private static class Rain extends Chalk {
    public int loses(int x) {
      TRACE.add(50);
      return super.loses(x) - judges(2);
    }
  }

  private static class Net extends Twin {
    public int tells(int x) {
      TRACE.add(60);
      return super.tells(x) ^ 5;
    }
  }

  private static class Ball extends Stool {
    public int judges(int x) {
      TRACE.add(70);
      return super.judges(x) * 2;
    }
  }

  private static class Boy extends Rain {
    public int calls(int x) {
      TRACE.add(80);
      return super.calls(x) + loses(2);
    }

    public int tells(int x) {
      TRACE.add(81);
      return super.tells(x) - 1;
    }
  }

  /** The document once more, with lists, brute force and the host's own refusals. */
  private static final class Model {
    List<Integer> skill = new ArrayList<>(), grudge = new ArrayList<>(), lost = new ArrayList<>(), today = new ArrayList<>();
    int day = 0, seed = 1;
    int[] led = new int[5];
    StringBuilder tape = new StringBuilder();
    String law = null;
    List<int[]> done = new ArrayList<>(), undone = new ArrayList<>();
    Model image = null;
    List<Stool> bodies = new ArrayList<>();
    List<Integer> trace = new ArrayList<>();
    Object[] shelves = new Object[6];

    private Model copy() {
      Model m = new Model();
      m.skill = new ArrayList<>(skill);
      m.grudge = new ArrayList<>(grudge);
      m.lost = new ArrayList<>(lost);
      m.today = new ArrayList<>(today);
      m.day = day;
      m.seed = seed;
      m.led = led.clone();
      m.law = law;
      return m;
    }

    private boolean is(int one) {
      return one >= 0 && one < skill.size();
    }

    boolean lostYesterday(int one) {
      return is(one) && lost.get(one) % 2 == 1;
    }

    private boolean unlike(int a, int b, int u) {
      return is(a) && is(b) && is(u) && a != b && b != u && a != u;
    }

    private boolean can(int a, int b, int u) {
      return unlike(a, b, u) && lostYesterday(u) && today.get(a) % 2 + today.get(b) % 2 + today.get(u) % 2 == 0;
    }

    private boolean three(int abu) {
      return abu >= 0 && abu < 1000 && unlike(abu / 100, abu / 10 % 10, abu % 10);
    }

    private int odds(int a, int b, int u) {
      int m = Integer.bitCount(lost.get(a)), l = Integer.bitCount(lost.get(u));
      int value = law == null ? 6 + skill.get(a) - skill.get(b) + grudge.get(u) / 20 - m / 2
          : new Text(law, new int[] {skill.get(a), skill.get(b), grudge.get(u), l, m, day}).value();
      return value < 0 ? 0 : value > 12 ? 12 : value;
    }

    int player(int s) {
      if (s < 0 || s > 9) {
        return -1;
      }
      if (skill.size() == 10) {
        return -3;
      }
      add(s, 0, 0);
      return skill.size() - 1;
    }

    private void add(int s, int g, int l) {
      skill.add(s);
      grudge.add(g);
      lost.add(l);
      today.add(0);
    }

    int players(int shelf, int i, int n) {
      if (shelf < 0 || shelf > 5 || n < 1 || n > 10) {
        return -1;
      }
      if (shelves[shelf] != null && !(shelves[shelf] instanceof short[])) {
        return -12;
      }
      short[] row = (short[]) shelves[shelf];
      int came = 0;
      try {
        while (came < n && skill.size() < 10) {
          int s = row[i], g = row[i + 1], l = row[i + 2];
          if (s < 0 || s > 9 || g < 0 || g > 99 || l < 0 || l > 255) {
            break;
          }
          add(s, g, l);
          came++;
          i += 3;
        }
      } catch (NullPointerException | ArrayIndexOutOfBoundsException e) {
        return came;
      }
      return came;
    }

    private List<Integer> listOf(int what) {
      return what == 0 ? skill : what == 1 ? grudge : what == 2 ? lost : today;
    }

    int of(int number, int what) {
      if (what == 4 || what == 5) {
        return number != 0 ? -2000000000 : what == 4 ? day : seed;
      }
      return what < 0 || what > 5 || !is(number) ? -2000000000 : listOf(what).get(number);
    }

    private void set(int number, int what, int v) {
      if (what == 4) {
        day = v;
      } else if (what == 5) {
        seed = v;
      } else {
        listOf(what).set(number, v);
      }
    }

    int mend(int number, int what, int v) {
      int[] most = {9, 99, 255, 3, 99};
      if (what < 0 || what > 5 || (what > 3 ? number != 0 : !is(number)) || what < 5 && (v < 0 || v > most[what])) {
        return -2000000000;
      }
      int was = of(number, what);
      if (was != v) {
        done.add(new int[] {number, what, was, v});
        if (done.size() > 40) {
          done.remove(0);
        }
        undone.clear();
        set(number, what, v);
      }
      return was;
    }

    int undo() {
      if (done.isEmpty()) {
        return -5;
      }
      int[] change = done.remove(done.size() - 1);
      undone.add(change);
      set(change[0], change[1], change[2]);
      return done.size();
    }

    int redo() {
      if (undone.isEmpty()) {
        return -5;
      }
      int[] change = undone.remove(undone.size() - 1);
      done.add(change);
      set(change[0], change[1], change[3]);
      return undone.size();
    }

    int feed(int letter) {
      if (letter < 0 || letter > 255) {
        return -1;
      }
      if (tape.length() == 120) {
        return -3;
      }
      tape.append((char) letter);
      return tape.length();
    }

    int law() {
      String text = tape.toString();
      tape.setLength(0);
      int fault = Text.fault(text);
      if (fault >= 0) {
        return -100 - fault;
      }
      law = text;
      return 1;
    }

    int odds(int abu) {
      return three(abu) ? odds(abu / 100, abu / 10 % 10, abu % 10) : -1;
    }

    int judges() {
      int bits = 0;
      for (int i = 0; i < skill.size(); i++) {
        bits += lostYesterday(i) ? 1 << i : 0;
      }
      return bits;
    }

    int bestJudge(int ab) {
      if (ab < 0 || ab > 99 || !is(ab / 10) || !is(ab % 10) || ab / 10 == ab % 10) {
        return -1;
      }
      int best = -2;
      for (int u = skill.size() - 1; u >= 0; u--) {
        if (lostYesterday(u) && unlike(ab / 10, ab % 10, u)) {
          best = best == -2 || odds(ab / 10, ab % 10, u) >= odds(ab / 10, ab % 10, best) ? u : best;
        }
      }
      return best;
    }

    private int cardRefusal(int shelf) {
      return shelves[shelf] == null ? -11 : shelves[shelf] instanceof byte[] ? 0 : -12;
    }

    /** Plays a day's card and tells who won and who lost, by twos; by draws if there is a seed to go on with. */
    private List<Integer> playCard(byte[] card, boolean draws) {
      List<Integer> results = new ArrayList<>();
      for (int t = 0; t < 8 && 3 * t + 2 < card.length; t++) {
        int a = card[3 * t], b = card[3 * t + 1], u = card[3 * t + 2];
        if (!can(a, b, u)) {
          break;
        }
        boolean wins = draws ? play(a, b, u) : odds(a, b, u) >= 6;
        if (!draws) {
          mark(wins ? a : b, wins ? b : a, u);
        }
        results.add(wins ? a : b);
        results.add(wins ? b : a);
      }
      return results;
    }

    private void mark(int winner, int loser, int umpire) {
      today.set(winner, today.get(winner) | 1);
      today.set(loser, 3);
      today.set(umpire, today.get(umpire) | 1);
    }

    private boolean play(int a, int b, int u) {
      seed = seed * 1103515245 + 12345;
      boolean wins = (seed >>> 8) % 12 < odds(a, b, u);
      mark(wins ? a : b, wins ? b : a, u);
      return wins;
    }

    private void end() {
      for (int i = 0; i < skill.size(); i++) {
        boolean beaten = today.get(i) >= 2;
        lost.set(i, (lost.get(i) * 2 + (beaten ? 1 : 0)) % 256);
        int g = grudge.get(i) + (beaten ? 3 : -1);
        grudge.set(i, g < 0 ? 0 : g > 99 ? 99 : g);
        today.set(i, 0);
      }
      day = day == 99 ? 99 : day + 1;
    }

    int held(int shelf) {
      if (shelf < 0 || shelf > 5) {
        return -1;
      }
      return cardRefusal(shelf) != 0 ? cardRefusal(shelf) : copy().playCard((byte[]) shelves[shelf], false).size() / 2;
    }

    int loses(int shelf) {
      if (shelf < 0 || shelf > 5) {
        return -1;
      }
      if (cardRefusal(shelf) != 0) {
        return cardRefusal(shelf);
      }
      List<Integer> results = copy().playCard((byte[]) shelves[shelf], false);
      int bits = 0;
      for (int i = 1; i < results.size(); i += 2) {
        bits |= 1 << results.get(i);
      }
      return bits;
    }

    int behind(int shelf, int n, int one, int what) {
      if (shelf < 0 || shelf > 5 || n < 0 || n > 20 || what < 0 || what > 3 || (what < 2 ? !is(one) : one != 0)) {
        return -1;
      }
      if (cardRefusal(shelf) != 0) {
        return cardRefusal(shelf);
      }
      Model m = copy();
      int held = 0;
      for (int i = 0; i < n; i++) {
        held += m.playCard((byte[]) shelves[shelf], false).size() / 2;
        m.end();
      }
      return what == 0 ? m.lost.get(one) : what == 1 ? m.grudge.get(one) : what == 2 ? m.judges() : held;
    }

    private List<Integer> best = null;

    private void search(List<Integer> all, int from, int used, List<Integer> chosen) {
      if (chosen.size() > best.size()) {
        best = new ArrayList<>(chosen);
      }
      for (int i = from; i < all.size() && best.size() < 3; i++) {
        int abu = all.get(i), bits = 1 << abu / 100 | 1 << abu / 10 % 10 | 1 << abu % 10;
        if ((used & bits) == 0) {
          chosen.add(abu);
          search(all, i + 1, used | bits, chosen);
          chosen.remove(chosen.size() - 1);
        }
      }
    }

    int atOnce(int k) {
      if (k < -1) {
        return -1;
      }
      List<Integer> all = new ArrayList<>();
      for (int abu = 0; abu < 1000; abu++) {
        if (abu / 100 < abu / 10 % 10 && can(abu / 100, abu / 10 % 10, abu % 10)) {
          all.add(abu);
        }
      }
      best = new ArrayList<>();
      search(all, 0, 0, new ArrayList<>());
      return k == -1 ? best.size() : k < best.size() ? best.get(k) : -2;
    }

    int tomorrow(int one) {
      if (!is(one)) {
        return -1;
      }
      int found = -2, least = 99;
      for (int code = 0; code < 1000; code++) {
        int b = code / 100, u = code % 100;
        if (can(one, b, u) && odds(one, b, u) < least) {
          least = odds(one, b, u);
          found = code;
        }
      }
      return found;
    }

    private List<int[]> results(int shelf) {
      byte[] row = (byte[]) shelves[shelf];
      List<int[]> results = new ArrayList<>();
      for (int t = 0; t < 20 && 2 * t + 1 < row.length; t++) {
        int w = row[2 * t], l = row[2 * t + 1];
        if (is(w) && is(l) && w != l) {
          results.add(new int[] {w, l});
        }
      }
      return results;
    }

    private int[] bestOrder;
    private int fewest;

    private void permute(int[][] won, int[] order, int n, int used, int upset) {
      if (upset >= fewest) {
        return;
      }
      if (n == order.length) {
        fewest = upset;
        bestOrder = order.clone();
        return;
      }
      for (int i = 0; i < order.length; i++) {
        if ((used & 1 << i) == 0) {
          int more = 0;
          for (int j = 0; j < order.length; j++) {
            more += (used & 1 << j) == 0 ? won[j][i] : 0;
          }
          order[n] = i;
          permute(won, order, n + 1, used | 1 << i, upset + more);
        }
      }
    }

    int order(int shelf, int k) {
      if (shelf < 0 || shelf > 5 || k < -1) {
        return -1;
      }
      if (cardRefusal(shelf) != 0) {
        return cardRefusal(shelf);
      }
      if (k >= skill.size()) {
        return -2;
      }
      int[][] won = new int[10][10];
      for (int[] result : results(shelf)) {
        won[result[0]][result[1]]++;
      }
      fewest = 1000;
      permute(won, new int[skill.size()], 0, 0, 0);
      return k == -1 ? fewest : bestOrder[k];
    }

    private int smallest;

    private void walk(List<int[]> results, int start, int at, int used, int length) {
      for (int[] result : results) {
        if (result[0] == at && result[1] == start) {
          smallest = Math.min(smallest, length);
        } else if (result[0] == at && (used & 1 << result[1]) == 0 && length < smallest) {
          walk(results, start, result[1], used | 1 << result[1], length + 1);
        }
      }
    }

    int ring(int shelf) {
      if (shelf < 0 || shelf > 5) {
        return -1;
      }
      if (cardRefusal(shelf) != 0) {
        return cardRefusal(shelf);
      }
      smallest = 99;
      for (int start = 0; start < skill.size(); start++) {
        walk(results(shelf), start, start, 1 << start, 1);
      }
      return smallest == 99 ? -2 : smallest;
    }

    private static long part(BigInteger above, BigInteger below, int part) {
      BigInteger by = above.gcd(below);
      return (part == 0 ? above : below).divide(by).longValueExact();
    }

    long thrownBy(int shelf, int abu, int part) {
      if (shelf < 0 || shelf > 5 || !(shelves[shelf] instanceof byte[]) || !three(abu) || part < 0 || part > 1) {
        return NONE;
      }
      byte[] row = (byte[]) shelves[shelf];
      BigInteger thrown = BigInteger.ONE, fair = BigInteger.ONE;
      for (int i = 0; i < 8 && i < row.length && (row[i] == 0 || row[i] == 1); i++) {
        thrown = thrown.multiply(BigInteger.valueOf(row[i] == 1 ? 1 : 11));
        fair = fair.multiply(BigInteger.valueOf(row[i] == 1 ? odds(abu) : 12 - odds(abu)));
      }
      return part(thrown, thrown.add(fair), part);
    }

    int three() {
      int bits = 0;
      for (int i = 0; i < skill.size(); i++) {
        bits |= Integer.toBinaryString(lost.get(i)).contains("111") ? 1 << i : 0;
      }
      return bits;
    }

    long streak(int abu, int k, int part) {
      if (!three(abu) || k < 0 || k > 6 || part < 0 || part > 1) {
        return NONE;
      }
      return part(BigInteger.valueOf(12 - odds(abu)).pow(k), BigInteger.valueOf(12).pow(k), part);
    }

    private int after(int abu, int n, int turn) {
      if (turn == n) {
        return odds(abu);
      }
      int u = abu % 10, was = grudge.get(u), value = turn % 2 == 0 ? -1 : 99;
      for (int g : new int[] {Math.max(0, was - 20), Math.min(99, was + 20), was}) {
        grudge.set(u, g);
        int got = after(abu, n, turn + 1);
        value = turn % 2 == 0 ? Math.max(value, got) : Math.min(value, got);
      }
      grudge.set(u, was);
      return value;
    }

    int byTurns(int abu, int n, int what) {
      if (!three(abu) || n < 1 || n > 5 || what < 0 || what > 1) {
        return -1;
      }
      int value = after(abu, n, 0), u = abu % 10, was = grudge.get(u);
      if (what == 0) {
        return value;
      }
      int[] grudges = {was, Math.max(0, was - 20), Math.min(99, was + 20)}, moves = {2, 0, 1};
      for (int i = 0; i < 3; i++) {
        grudge.set(u, grudges[i]);
        int got = after(abu, n, 1);
        grudge.set(u, was);
        if (got == value) {
          return moves[i];
        }
      }
      return -99;
    }

    int drawn(int z, int shelf, int nm, int one) {
      int n = nm / 100, days = nm % 100;
      if (shelf < 0 || shelf > 5 || n < 1 || n > 30 || days < 1 || days > 20 || one != -1 && !is(one)) {
        return -1;
      }
      if (cardRefusal(shelf) != 0) {
        return cardRefusal(shelf);
      }
      int wins = 0, held = 0;
      for (int season = 0; season < n; season++) {
        Model m = copy();
        m.seed = z;
        for (int i = 0; i < days; i++) {
          List<Integer> results = m.playCard((byte[]) shelves[shelf], true);
          m.end();
          held += results.size() / 2;
          for (int j = 0; j < results.size(); j += 2) {
            wins += results.get(j) == one ? 1 : 0;
          }
        }
        z = m.seed;
      }
      return one == -1 ? held : wins;
    }

    int match(int abu) {
      if (!three(abu)) {
        return -1;
      }
      if (!can(abu / 100, abu / 10 % 10, abu % 10)) {
        return -5;
      }
      boolean wins = play(abu / 100, abu / 10 % 10, abu % 10);
      led[0]++;
      led[1] += wins ? 1 : 0;
      return wins ? 1 : 0;
    }

    int lemonade(int one) {
      if (!is(one)) {
        return -1;
      }
      grudge.set(one, Math.max(0, grudge.get(one) - 20));
      led[2]++;
      return grudge.get(one);
    }

    int day() {
      led[3]++;
      for (int t : today) {
        led[4] += t / 2;
      }
      end();
      return judges();
    }

    int led(int what) {
      return what < 0 || what > 4 ? -1 : led[what];
    }

    int image() {
      image = copy();
      return led[0];
    }

    int back() {
      if (image == null) {
        return -5;
      }
      for (int i = 0; i < image.skill.size(); i++) {
        grudge.set(i, image.grudge.get(i));
        lost.set(i, image.lost.get(i));
        today.set(i, image.today.get(i));
      }
      day = image.day;
      seed = image.seed;
      led = image.led.clone();
      return led[0];
    }

    int body(int kind) {
      if (kind < 0 || kind > 7) {
        return -1;
      }
      if (bodies.size() == 50) {
        return -3;
      }
      Stool[] kinds = {new Stool(), new Chalk(), new Crowd(), new Twin(), new Rain(), new Net(), new Ball(), new Boy()};
      kinds[kind].kind = kind;
      kinds[kind].number = bodies.size();
      bodies.add(kinds[kind]);
      return bodies.size() - 1;
    }

    int act(int body, int act, int x) {
      TRACE.clear();
      int answer = 0;
      if (body >= 0 && body < bodies.size() && act >= 0 && act <= 3) {
        Stool s = bodies.get(body);
        answer = act == 0 ? s.judges(x) : act == 1 ? s.calls(x) : act == 2 ? s.loses(x) : s.tells(x);
      }
      trace = new ArrayList<>(TRACE);
      return answer;
    }

    int trace(int i) {
      return i < 0 || i >= trace.size() || i >= 24 ? -1 : trace.get(i);
    }

    int keep(int shelf, int body) {
      if (shelf < 0 || shelf > 5 || body < -1 || body >= bodies.size()) {
        return -1;
      }
      shelves[shelf] = body == -1 ? null : bodies.get(body);
      return 1;
    }

    int row(int shelf, int sort, int n) {
      if (shelf < 0 || shelf > 5 || sort < 0 || sort > 4 || n > 60) {
        return -1;
      }
      try {
        shelves[shelf] = sort == 0 ? new byte[n] : sort == 1 ? new short[n] : sort == 2 ? new int[n]
            : sort == 3 ? new long[n] : new boolean[n];
        return 1;
      } catch (NegativeArraySizeException e) {
        return -14;
      }
    }

    int put(int shelf, int i, long v) {
      if (shelf < 0 || shelf > 5) {
        return -1;
      }
      Object o = shelves[shelf];
      if (o == null || o instanceof Stool) {
        return o == null ? -11 : -12;
      }
      try {
        if (o instanceof byte[]) {
          ((byte[]) o)[i] = (byte) v;
        } else if (o instanceof short[]) {
          ((short[]) o)[i] = (short) v;
        } else if (o instanceof int[]) {
          ((int[]) o)[i] = (int) v;
        } else if (o instanceof long[]) {
          ((long[]) o)[i] = v;
        } else {
          ((boolean[]) o)[i] = v != 0;
        }
        return 1;
      } catch (ArrayIndexOutOfBoundsException e) {
        return -13;
      }
    }

    long element(int shelf, int i) {
      if (shelf < 0 || shelf > 5 || shelves[shelf] == null || shelves[shelf] instanceof Stool) {
        return NONE;
      }
      try {
        if (shelves[shelf] instanceof boolean[]) {
          return ((boolean[]) shelves[shelf])[i] ? 1 : 0;
        }
        return java.lang.reflect.Array.getLong(shelves[shelf], i);
      } catch (ArrayIndexOutOfBoundsException e) {
        return NONE;
      }
    }

    int shift(int shelf, int i, int other, int j, int n) {
      if (shelf < 0 || shelf > 5 || other < 0 || other > 5) {
        return -1;
      }
      try {
        System.arraycopy(shelves[shelf], i, shelves[other], j, n);
        return n;
      } catch (NullPointerException e) {
        return -11;
      } catch (ArrayStoreException e) {
        return -12;
      } catch (IndexOutOfBoundsException e) {
        return -13;
      }
    }

    int taken(int shelf, int k) {
      if (shelf < 0 || shelf > 5 || k < 0 || k > 7) {
        return -1;
      }
      Class<?>[] kinds = {Stool.class, Chalk.class, Crowd.class, Twin.class, Rain.class, Net.class, Ball.class, Boy.class};
      if (shelves[shelf] == null) {
        return -11;
      }
      return kinds[k].isInstance(shelves[shelf]) ? ((Stool) shelves[shelf]).kind : -12;
    }

    int count(int what) {
      int[] counts = {skill.size(), Integer.bitCount(judges()), tape.length(), done.size(), bodies.size(), trace.size()};
      return what < 0 || what > 5 ? -1 : counts[what];
    }
  }
}
