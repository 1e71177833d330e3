import java.util.ArrayList;
import java.util.List;

/** An object by the calls that made it, so that it can be made again and looked at to the ground. */
final class Stand {
  interface Call {
    long on(UmpireLost x);
  }

  private interface Look {
    void at(UmpireLost x, List<Long> seen);
  }

  private static final Call NOTHING = x -> 0;
  private static final Look[] LOOKS = {
    (x, seen) -> shelves(x, 0, 2, seen), (x, seen) -> shelves(x, 2, 4, seen), (x, seen) -> shelves(x, 4, 6, seen),
    Stand::plainly, Stand::undone, Stand::doneAgain, Stand::laidBack, Stand::tapeAndLaw, Stand::sorts, Stand::bodies,
  };

  private final List<Call> calls = new ArrayList<>();
  private List<Long> seen = null;

  Stand does(Call... more) {
    calls.addAll(List.of(more));
    seen = null;
    return this;
  }

  UmpireLost again() {
    UmpireLost x = new UmpireLost();
    for (Call call : calls) {
      call.on(x);
    }
    return x;
  }

  List<Long> seen() {
    if (seen == null) {
      seen = seenBehind(NOTHING);
    }
    return seen;
  }

  /** Each look at an object of its own, as some looks change it. */
  List<Long> seenBehind(Call call) {
    List<Long> all = new ArrayList<>();
    for (Look look : LOOKS) {
      UmpireLost x = again();
      call.on(x);
      look.at(x, all);
    }
    return all;
  }

  /** -1 if they are alike. */
  static int firstUnlike(List<Long> some, List<Long> others) {
    int most = Math.min(some.size(), others.size());
    for (int i = 0; i < most; i++) {
      if (!some.get(i).equals(others.get(i))) {
        return i;
      }
    }
    return some.size() == others.size() ? -1 : most;
  }

  /** An object in which there is something of everything: all of it can be broken. */
  static Stand house() {
    Stand s = new Stand();
    s.does(x -> x.player(5), x -> x.player(7), x -> x.player(3), x -> x.player(9), x -> x.player(2), x -> x.player(6));
    s.does(x -> x.mend(2, 2, 129), x -> x.mend(5, 2, 3), x -> x.mend(3, 1, 60), x -> x.mend(2, 1, 41));
    text(s, "6+a-b+g/20+d%3").does(x -> x.law());
    s.does(x -> x.match(12), x -> x.lemonade(3), x -> x.image(), x -> x.day(), x -> x.mend(1, 2, 7), x -> x.mend(5, 2, 1));
    s.does(x -> x.mend(0, 5, 4711), x -> x.mend(4, 1, 33), x -> x.mend(0, 4, 17), x -> x.mend(4, 3, 2), x -> x.mend(0, 0, 8));
    s.does(x -> x.undo(), x -> x.undo());
    text(s, "9-a");
    for (int kind = 0; kind < 8; kind++) {
      int each = kind;
      s.does(x -> x.body(each));
    }
    s.does(x -> x.act(7, 3, 5), x -> x.keep(4, 3));
    return row(row(row(row(s, 0, 0, 0, 1, 5, 2, 3, 1), 1, 1, 4, 5, 6), 2, 3, -7, 1L << 40), 3, 4, 1, 0, 1);
  }

  static Stand text(Stand s, String text) {
    for (char letter : text.toCharArray()) {
      s.does(x -> x.feed(letter));
    }
    return s;
  }

  private static Stand row(Stand s, int shelf, int sort, long... values) {
    s.does(x -> x.row(shelf, sort, values.length));
    for (int i = 0; i < values.length; i++) {
      int at = i;
      s.does(x -> x.put(shelf, at, values[at]));
    }
    return s;
  }

  // ---- looks

  private static void shelves(UmpireLost x, int from, int to, List<Long> seen) {
    for (int shelf = from; shelf < to; shelf++) {
      seen.add((long) x.taken(shelf, 0));
      seen.add((long) x.shift(shelf, 0, shelf, 0, 0));
      for (int i = 0; i < 60; i++) {
        seen.add(x.element(shelf, i));
      }
    }
  }

  private static void numbers(UmpireLost x, List<Long> seen) {
    for (int what = 0; what < 6; what++) {
      for (int one = 0; one < (what < 4 ? 10 : 1); one++) {
        seen.add((long) x.of(one, what));
      }
    }
    for (int what = 0; what < 5; what++) {
      seen.add((long) x.led(what));
    }
    for (int what = 0; what < 6; what++) {
      seen.add((long) x.count(what));
    }
  }

  private static void plainly(UmpireLost x, List<Long> seen) {
    numbers(x, seen);
    for (int i = 0; i < 24; i++) {
      seen.add((long) x.trace(i));
    }
    allOdds(x, seen);
  }

  private static void allOdds(UmpireLost x, List<Long> seen) {
    for (int abu : new int[] {12, 21, 102, 120, 201, 210, 345, 453}) {
      seen.add((long) x.odds(abu));
    }
  }

  private static void undone(UmpireLost x, List<Long> seen) {
    for (int i = 0; i < 41; i++) {
      seen.add((long) x.undo());
    }
    numbers(x, seen);
  }

  private static void doneAgain(UmpireLost x, List<Long> seen) {
    for (int i = 0; i < 41; i++) {
      seen.add((long) x.redo());
    }
    numbers(x, seen);
  }

  private static void laidBack(UmpireLost x, List<Long> seen) {
    seen.add((long) x.back());
    numbers(x, seen);
  }

  private static void tapeAndLaw(UmpireLost x, List<Long> seen) {
    allOdds(x, seen);
    seen.add((long) x.law());
    allOdds(x, seen);
  }

  /** What rows keep of a number tells their sorts. */
  private static void sorts(UmpireLost x, List<Long> seen) {
    for (int shelf = 0; shelf < 6; shelf++) {
      seen.add((long) x.put(shelf, 0, 0x8181818181L));
      seen.add(x.element(shelf, 0));
    }
  }

  private static void bodies(UmpireLost x, List<Long> seen) {
    for (int body = 0; body < 50; body++) {
      seen.add((long) x.keep(0, body));
      seen.add((long) x.taken(0, 0));
    }
    seen.add((long) x.body(0));
  }
}
