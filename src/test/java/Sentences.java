import java.io.IOException;
import java.nio.file.Files;
import java.nio.file.Path;
import java.util.ArrayList;
import java.util.List;
import java.util.regex.Matcher;
import java.util.regex.Pattern;

/** What the tests of the document's sentences share: each check names the promise and the sentence that it holds. */
abstract class Sentences {
  static final int BAD = -1, NOT = -2, FULL = -3, STATE = -5, VOID = -2000000000;
  static final int NOTHING_THERE = -11, OTHER_KIND = -12, NO_PLACE = -13, SIZE_BELOW_ZERO = -14;
  static final long NONE = Long.MIN_VALUE;
  static final int LAST = Integer.MAX_VALUE, FIRST = Integer.MIN_VALUE;
  static final int BYTES = 0, SHORTS = 1, INTS = 2, LONGS = 3, BOOLEANS = 4;
  static final int SKILL = 0, GRUDGE = 1, LOST = 2, TODAY = 3, DAY = 4, SEED = 5;
  static final String CHANGES_NOTHING = "What is answered so changes nothing.";
  static final String ONLY_ANSWERS = "Nothing is promised beyond the answers and state changes described above";
  static final String FIRST_NAMED = "Answers, of several the one named first: BAD (-1): no such number, or it is not as said; NOT (-2): as told; "
      + "FULL (-3); STATE (-5): as told; -11 to -14.";

  private static final int PROMISES = 40;
  private static final Path DOCUMENT = Path.of("../shared/DOC.md");
  private static final List<Integer> PROMISES_NAMED = new ArrayList<>();
  private static final List<String> NAMED = new ArrayList<>();
  private static int checked = 0, wrong = 0;

  /** From here on the checks hold a sentence of the document, for one promise. */
  static void holds(int promise, String sentence) {
    PROMISES_NAMED.add(promise);
    NAMED.add(sentence);
  }

  static void due(String call, long got, long want) {
    checked++;
    if (got != want) {
      int last = NAMED.size() - 1;
      complain("promise " + PROMISES_NAMED.get(last) + ", \"" + NAMED.get(last) + "\": " + call + " answered " + got
          + ", due is " + want);
    }
  }

  private static void complain(String what) {
    wrong++;
    System.out.println(what);
  }

  /** The call is refused, and nothing that can be seen of the object afterwards is otherwise. */
  static void refused(Stand stand, String call, Stand.Call refusal, long want) {
    due(call, refusal.on(stand.again()), want);
    due(call + ": what changed", Stand.firstUnlike(stand.seen(), stand.seenBehind(refusal)), -1);
  }

  /** The call asks alone: nothing is otherwise behind it. */
  static void onlyAnswers(int promise, String call, Stand.Call question) {
    holds(promise, ONLY_ANSWERS);
    Stand house = Stand.house();
    due(call + ": what changed", Stand.firstUnlike(house.seen(), house.seenBehind(question)), -1);
  }

  // ---- what many tests make

  static UmpireLost of(int... skills) {
    UmpireLost x = new UmpireLost();
    for (int skill : skills) {
      x.player(skill);
    }
    return x;
  }

  /** So many players of skill 5. */
  static UmpireLost many(int n) {
    UmpireLost x = new UmpireLost();
    for (int i = 0; i < n; i++) {
      x.player(5);
    }
    return x;
  }

  static void lostYesterday(UmpireLost x, int... players) {
    for (int one : players) {
      x.mend(one, LOST, 1);
    }
  }

  static void row(UmpireLost x, int shelf, int sort, long... values) {
    x.row(shelf, sort, values.length);
    for (int i = 0; i < values.length; i++) {
      x.put(shelf, i, values[i]);
    }
  }

  static void feed(UmpireLost x, String text) {
    for (int i = 0; i < text.length(); i++) {
      x.feed(text.charAt(i));
    }
  }

  static int text(UmpireLost x, String text) {
    feed(x, text);
    return x.law();
  }

  /** Ten whose skills and grudges are their numbers, so that a law of one name tells who is asked of. */
  static Stand numbered(String law) {
    Stand stand = new Stand();
    for (int i = 0; i < 10; i++) {
      int one = i;
      stand.does(x -> x.player(one), x -> x.mend(one, GRUDGE, one));
    }
    return Stand.text(stand, law).does(x -> x.law());
  }

  /** Each abu of three digits: what is due if they are unlike is by its digits, else it is what refuses. */
  static void ofAllThrees(String what, Stand stand, OfThree call, OfDigits due, long refusal) {
    UmpireLost x = null;
    for (int abu = 0; abu < 1000; abu++) {
      int one = abu / 100, other = abu % 100 / 10, umpire = abu % 10;
      boolean unlike = one != other && other != umpire && umpire != one;
      if (other + umpire == 0) {
        x = stand.again();
      }
      due(what + " of " + abu, call.of(x, abu), unlike ? due.of(one, other, umpire) : refusal);
    }
  }

  interface OfThree {
    long of(UmpireLost x, int abu);
  }

  interface OfDigits {
    long of(int one, int other, int umpire);
  }

  static int[] outside(int least, int most) {
    return new int[] {least - 1, most + 1, FIRST, LAST};
  }

  static int next(int z) {
    return z * 1103515245 + 12345;
  }

  static int twelfth(int z) {
    return (z >>> 8) % 12;
  }

  // ---- whether the document has what was named, and all that it has was named

  static boolean allHold() throws IOException {
    String document = plain(Files.readString(DOCUMENT));
    for (String sentence : NAMED) {
      if (!document.contains(plain(sentence))) {
        complain("the document has no such sentence: " + sentence);
      }
    }
    int start = document.indexOf("======== 1 PLAYERS"), end = document.indexOf("## Promise 1:");
    String terms = document.substring(start, end).replaceAll("======== \\d", "")
        .replaceAll("Ahead of the calls .*? ---- (results, what was thrown|in deed|acts, shelves)?", "");
    allNamed("the terms", terms, NAMED);
    promisesNamed(document.substring(end, document.indexOf("## Not promised")));
    System.out.println(NAMED.size() + " sentences held, " + checked + " checks, " + wrong + " wrong");
    return wrong == 0;
  }

  private static String plain(String text) {
    return text.replaceAll("```\\w*", " ").replaceAll("\\s+", " ").trim();
  }

  private static void promisesNamed(String promises) {
    Matcher m = Pattern.compile("## Promise (\\d+): [\\w ]+ `[^`]*`: (.*?)(?=## Promise|$)").matcher(promises);
    int found = 0;
    while (m.find()) {
      int promise = Integer.parseInt(m.group(1));
      List<String> named = new ArrayList<>();
      for (int i = 0; i < NAMED.size(); i++) {
        if (PROMISES_NAMED.get(i) == promise) {
          named.add(NAMED.get(i));
        }
      }
      allNamed("promise " + promise, m.group(2), named);
      found++;
    }
    if (found != PROMISES) {
      complain("the document's promises were not read: " + found);
    }
  }

  private static void allNamed(String where, String text, List<String> named) {
    boolean[] held = new boolean[text.length()];
    for (String each : named) {
      String sentence = plain(each);
      for (int at = text.indexOf(sentence); at >= 0; at = text.indexOf(sentence, at + 1)) {
        java.util.Arrays.fill(held, at, at + sentence.length(), true);
      }
    }
    StringBuilder rest = new StringBuilder();
    for (int i = 0; i < held.length; i++) {
      rest.append(held[i] ? '\n' : text.charAt(i));
    }
    for (String piece : rest.toString().split("\n+")) {
      if (piece.matches(".*\\w.*")) {
        complain("no test names this of " + where + ": " + piece.trim());
      }
    }
  }
}
