/** Promises 31 to 40: stools and their acts, what shelves hold, how many there are of what. */
final class ShelfSentences extends Sentences {
  private static final String BODIES = "BODIES of acts: JUDGES (an interface of STOOL): 1 judges: x + n. STOOL: 10 calls: judges(x) * 2. "
      + "11 loses: x ^ n. TELLS (of STOOL): 2 tells: calls(x) - loses(1). CHALK: 20 judges: super.judges(x) + 3. "
      + "CROWD: 30 calls: -super.calls(x). TWIN: 40 loses: super.loses(x) * 3. 41 calls: super.calls(x + 1). "
      + "RAIN: 50 loses: super.loses(x) - judges(2). NET: 60 tells: super.tells(x) ^ 5. BALL: 70 judges: super.judges(x) * 2. "
      + "BOY: 80 calls: super.calls(x) + loses(2). 81 tells: super.tells(x) - 1.";
  private static final String TRACE = "THE TRACE: numbers of the bodies that ran in the latest act(), as they began; the first 24 are kept.";
  private static final String SHELVES = "SHELVES 0 .. 5 each hold nothing (at first), a STOOL (a BODY), or a ROW: of 0 bytes, 1 shorts, 2 ints, "
      + "3 longs, 4 booleans, of 0 .. 60 elements, 0 at first (false); what is put in keeps its lowest bits (a boolean: whether it is not 0; "
      + "1 or 0).";
  private static final String REFUSALS = "The host's REFUSALS: -11 nothing is there where something is wanted; -12 it is of another kind; "
      + "-13 a place that is not there; -14 a size below 0.";

  static void hold() {
    body();
    actOfKinds();
    actWraps();
    actRefusals();
    trace();
    traceRefusals();
    keep();
    row();
    rowRefusals();
    putBits();
    putRefusals();
    element();
    elementRefusals();
    shift();
    shiftPlaces();
    shiftRefusals();
    taken();
    takenRefusals();
    count();
    countFull();
  }

  private static UmpireLost withKinds() {
    UmpireLost x = new UmpireLost();
    for (int kind = 0; kind < 8; kind++) {
      x.body(kind);
    }
    return x;
  }

  private static Stand withBodies(int n) {
    Stand stand = new Stand();
    for (int i = 0; i < n; i++) {
      stand.does(x -> x.body(7));
    }
    return stand;
  }

  private static void body() {
    holds(31, "STOOLS' ways are kept by call as BODIES 0 .. 49, of KINDS: 0 STOOL; 1 CHALK under STOOL; 2 CROWD under STOOL; 3 TWIN under CROWD; "
        + "4 RAIN under CHALK; 5 NET under TWIN; 6 BALL under STOOL; 7 BOY under RAIN.");
    UmpireLost x = new UmpireLost();
    for (int i = 0; i < 50; i++) {
      due("body(" + i % 8 + ")", x.body(i % 8), i);
    }
    due("count(4)", x.count(4), 50);
    holds(31, "A STOOL of a KIND (0 .. 7) is kept: its number. BAD, FULL.");
    for (int kind : outside(0, 7)) {
      refused(Stand.house(), "body(" + kind + ")", y -> y.body(kind), BAD);
    }
    Stand full = withBodies(50);
    refused(full, "body(0) of fifty-one", y -> y.body(0), FULL);
    refused(full, "body(7) of fifty-one", y -> y.body(7), FULL);
    due("the fiftieth", withBodies(49).again().body(0), 49);
    holds(31, FIRST_NAMED);
    refused(full, "body(8) of fifty-one", y -> y.body(8), BAD);
    refused(full, "body(-1) of fifty-one", y -> y.body(-1), BAD);
  }

  private static void traceIs(String what, UmpireLost x, int... bodies) {
    for (int i = 0; i < bodies.length; i++) {
      due(what + ": trace(" + i + ")", x.trace(i), bodies[i]);
    }
    due(what + ": trace(" + bodies.length + ")", x.trace(bodies.length), BAD);
    due(what + ": count(5)", x.count(5), bodies.length);
  }

  private static void actIs(UmpireLost x, int body, int act, int with, int answer, int... bodies) {
    String what = "act(" + body + ", " + act + ", " + with + ")";
    due(what, x.act(body, act, with), answer);
    traceIs(what, x, bodies);
  }

  private static void actOfKinds() {
    holds(32, BODIES);
    UmpireLost x = withKinds();
    actIs(x, 0, 0, 4, 4, 1);
    actIs(x, 0, 1, 4, 8, 10, 1);
    actIs(x, 0, 2, 4, 4, 11);
    actIs(x, 0, 3, 4, 8 - 1, 2, 10, 1, 11);
    actIs(x, 1, 0, 4, 8, 20, 1);
    actIs(x, 1, 1, 4, 16, 10, 20, 1);
    actIs(x, 1, 2, 4, 5, 11);
    actIs(x, 1, 3, 4, 16, 2, 10, 20, 1, 11);
    actIs(x, 2, 0, 4, 6, 1);
    actIs(x, 2, 1, 4, -12, 30, 10, 1);
    actIs(x, 2, 2, 4, 6, 11);
    actIs(x, 2, 3, 4, -12 - 3, 2, 30, 10, 1, 11);
    actIs(x, 3, 0, 4, 7, 1);
    actIs(x, 3, 1, 4, -16, 41, 30, 10, 1);
    actIs(x, 3, 2, 4, 21, 40, 11);
    actIs(x, 3, 3, 4, -16 - 6, 2, 41, 30, 10, 1, 40, 11);
    actIs(x, 4, 0, 4, 11, 20, 1);
    actIs(x, 4, 1, 4, 22, 10, 20, 1);
    actIs(x, 4, 2, 4, -9, 50, 11, 20, 1);
    actIs(x, 4, 3, 4, 22 + 4, 2, 10, 20, 1, 50, 11, 20, 1);
    actIs(x, 5, 0, 4, 9, 1);
    actIs(x, 5, 1, 4, -20, 41, 30, 10, 1);
    actIs(x, 5, 2, 4, 3, 40, 11);
    actIs(x, 5, 3, 4, -20 - 12 ^ 5, 60, 2, 41, 30, 10, 1, 40, 11);
    actIs(x, 6, 0, 4, 20, 70, 1);
    actIs(x, 6, 1, 4, 40, 10, 70, 1);
    actIs(x, 6, 2, 4, 2, 11);
    actIs(x, 6, 3, 4, 40 - 7, 2, 10, 70, 1, 11);
    actIs(x, 7, 0, 4, 14, 20, 1);
    actIs(x, 7, 1, 4, 28 + 5 - 12, 80, 10, 20, 1, 50, 11, 20, 1);
    actIs(x, 7, 2, 4, 3 - 12, 50, 11, 20, 1);
    actIs(x, 7, 3, 4, 21 + 6 - 1, 81, 2, 80, 10, 20, 1, 50, 11, 20, 1, 50, 11, 20, 1);
    holds(32, "judges(..) and so on (act 0 is judges): the body of its own KIND, or of the next KIND above that has one; super: from the KIND "
        + "above the body's on.");
    actIs(x, 7, 0, 0, 10, 20, 1);
    actIs(x, 5, 2, 0, 15, 40, 11);
    actIs(x, 5, 0, 0, 5, 1);
  }

  private static void actWraps() {
    holds(32, "ACTS with x (an int that wraps): 0 judges, 1 calls, 2 loses, 3 tells; n its number.");
    UmpireLost x = withKinds();
    actIs(x, 0, 0, LAST, LAST, 1);
    actIs(x, 1, 0, LAST, FIRST + 3, 20, 1);
    actIs(x, 6, 0, LAST, 10, 70, 1);
    actIs(x, 0, 1, LAST, -2, 10, 1);
    actIs(x, 0, 1, FIRST, 0, 10, 1);
    actIs(x, 2, 1, FIRST, -4, 30, 10, 1);
    actIs(x, 3, 1, LAST, -6, 41, 30, 10, 1);
    actIs(x, 3, 2, LAST, LAST - 11, 40, 11);
    actIs(x, 4, 2, FIRST, FIRST + 4 - 9, 50, 11, 20, 1);
    actIs(x, 7, 3, FIRST, 18, 81, 2, 80, 10, 20, 1, 50, 11, 20, 1, 50, 11, 20, 1);
    UmpireLost y = new UmpireLost();
    for (int i = 0; i < 50; i++) {
      y.body(0);
    }
    actIs(y, 49, 0, LAST, FIRST + 48, 1);
    actIs(y, 49, 2, -1, ~49, 11);
    actIs(y, 49, 3, 0, 98 - 48, 2, 10, 1, 11);
  }

  private static void actRefusals() {
    holds(32, "An ACT (0 .. 3) of a STOOL with x. 0, and no TRACE then: no such STOOL, ACT.");
    int[][] none = {{-1, 0}, {8, 0}, {49, 0}, {50, 0}, {LAST, 1}, {FIRST, 1}, {0, -1}, {0, 4}, {7, LAST}, {7, FIRST}, {-1, -1}, {8, 4}};
    for (int[] each : none) {
      UmpireLost x = withKinds();
      x.act(7, 3, 5);
      due("act(" + each[0] + ", " + each[1] + ", 9)", x.act(each[0], each[1], 9), 0);
      traceIs("no trace", x);
      due("trace(13)", x.trace(13), BAD);
      due("count(4)", x.count(4), 8);
    }
    UmpireLost nobody = new UmpireLost();
    due("act(0, 0, 5) without bodies", nobody.act(0, 0, 5), 0);
    traceIs("no trace", nobody);
    due("act(0, 0, 5) with one", nobody.body(0) + nobody.act(0, 0, 5), 5);
    traceIs("a trace", nobody, 1);
  }

  private static void trace() {
    holds(33, TRACE);
    UmpireLost x = withKinds();
    traceIs("ahead of any act", x);
    x.act(7, 3, 0);
    // No act runs more than fourteen bodies, so nobody sees that only the first 24 are kept.
    traceIs("the longest", x, 81, 2, 80, 10, 20, 1, 50, 11, 20, 1, 50, 11, 20, 1);
    for (int i = 14; i <= 25; i++) {
      due("trace(" + i + ")", x.trace(i), BAD);
    }
    x.act(0, 0, 0);
    traceIs("a shorter one behind it", x, 1);
    due("trace(13)", x.trace(13), BAD);
    x.act(3, 2, 0);
    traceIs("the latest", x, 40, 11);
    x.body(1);
    x.day();
    traceIs("other calls leave it", x, 40, 11);
    due("trace(0) again", x.trace(0), 40);
  }

  private static void traceRefusals() {
    holds(33, "THE TRACE's i-th body. BAD.");
    for (int i : new int[] {-1, -2, FIRST, 14, 23, 24, 25, LAST}) {
      refused(Stand.house(), "trace(" + i + ")", x -> x.trace(i), BAD);
      refused(new Stand(), "trace(" + i + ") of a new one", x -> x.trace(i), BAD);
    }
    due("trace(0)", Stand.house().again().trace(0), 81);
    due("trace(13)", Stand.house().again().trace(13), 1);
    onlyAnswers(33, "trace(0)", x -> x.trace(0));
  }

  private static void keep() {
    Stand house = Stand.house();
    holds(34, "A SHELF holds nothing (body -1), or a STOOL: 1. BAD.");
    for (int shelf : outside(0, 5)) {
      refused(house, "keep(" + shelf + ", 0)", x -> x.keep(shelf, 0), BAD);
      refused(house, "keep(" + shelf + ", -1)", x -> x.keep(shelf, -1), BAD);
    }
    for (int body : new int[] {-2, 8, 49, 50, FIRST, LAST}) {
      for (int shelf = 0; shelf < 6; shelf++) {
        int each = shelf;
        refused(house, "keep(" + shelf + ", " + body + ")", x -> x.keep(each, body), BAD);
      }
    }
    refused(new Stand(), "keep(0, 0) without bodies", x -> x.keep(0, 0), BAD);
    due("keep(0, -1) without bodies", new UmpireLost().keep(0, -1), 1);
    holds(34, SHELVES);
    for (int shelf = 0; shelf < 6; shelf++) {
      UmpireLost x = house.again();
      due("keep(" + shelf + ", 7)", x.keep(shelf, 7), 1);
      due("taken", x.taken(shelf, 0), 7);
      due("put", x.put(shelf, 0, 1), OTHER_KIND);
      due("keep(" + shelf + ", 0)", x.keep(shelf, 0), 1);
      due("taken", x.taken(shelf, 0), 0);
      due("keep(" + shelf + ", -1)", x.keep(shelf, -1), 1);
      due("taken", x.taken(shelf, 0), NOTHING_THERE);
      due("keep(" + shelf + ", -1) again", x.keep(shelf, -1), 1);
    }
    UmpireLost full = withBodies(50).does(x -> x.keep(0, 49), x -> x.keep(1, 49)).again();
    due("a stool on two shelves", full.taken(0, 4) + full.taken(1, 7), 14);
  }

  private static void row() {
    holds(35, SHELVES);
    for (int sort = BYTES; sort <= BOOLEANS; sort++) {
      for (int n : new int[] {0, 1, 59, 60}) {
        UmpireLost x = new UmpireLost();
        due("row(5, " + sort + ", " + n + ")", x.row(5, sort, n), 1);
        for (int i = 0; i < n; i++) {
          due("0 at first", x.element(5, i), 0);
        }
        due("behind the end", x.put(5, n, 1), NO_PLACE);
        due("the last", x.put(5, n - 1, 1), n == 0 ? NO_PLACE : 1);
      }
    }
    UmpireLost x = withKinds();
    row(x, 0, LONGS, 7, 8, 9);
    due("row of a longer one", x.row(0, LONGS, 5), 1);
    for (int i = 0; i < 5; i++) {
      due("0 at first, whatever was there", x.element(0, i), 0);
    }
    x.keep(0, 3);
    due("row for a stool", x.row(0, BYTES, 2), 1);
    due("taken", x.taken(0, 0), OTHER_KIND);
    due("element", x.element(0, 1), 0);
    due("the same row, of none", x.row(0, BYTES, 0), 1);
    due("element", x.element(0, 0), NONE);
  }

  private static void rowRefusals() {
    Stand house = Stand.house();
    holds(35, "A SHELF holds a ROW: 1. BAD (sort, n above 60); -14.");
    for (int shelf : outside(0, 5)) {
      refused(house, "row(" + shelf + ", 0, 1)", x -> x.row(shelf, 0, 1), BAD);
    }
    for (int sort : outside(0, 4)) {
      refused(house, "row(0, " + sort + ", 1)", x -> x.row(0, sort, 1), BAD);
      refused(house, "row(5, " + sort + ", 0)", x -> x.row(5, sort, 0), BAD);
    }
    for (int n : new int[] {61, 62, 120, LAST}) {
      refused(house, "row(0, 0, " + n + ")", x -> x.row(0, 0, n), BAD);
      refused(house, "row(5, 4, " + n + ")", x -> x.row(5, 4, n), BAD);
    }
    holds(35, REFUSALS);
    for (int n : new int[] {-1, -2, -60, FIRST}) {
      for (int shelf = 0; shelf < 6; shelf++) {
        int each = shelf;
        refused(house, "row(" + shelf + ", 0, " + n + ")", x -> x.row(each, 0, n), SIZE_BELOW_ZERO);
      }
    }
    holds(35, FIRST_NAMED);
    refused(house, "row(0, 5, -1)", x -> x.row(0, 5, -1), BAD);
    refused(house, "row(0, -1, -1)", x -> x.row(0, -1, -1), BAD);
    refused(house, "row(6, 0, -1)", x -> x.row(6, 0, -1), BAD);
    refused(house, "row(-1, 0, -1)", x -> x.row(-1, 0, -1), BAD);
  }

  private static void kept(int sort, long put, long kept) {
    UmpireLost x = new UmpireLost();
    x.row(0, sort, 1);
    due("put(0, 0, " + put + ") of sort " + sort, x.put(0, 0, put), 1);
    due("element(0, 0)", x.element(0, 0), kept);
  }

  private static void putBits() {
    holds(36, "what is put in keeps its lowest bits (a boolean: whether it is not 0; 1 or 0).");
    long[] bytes = {0, 0, 127, 127, 128, -128, 255, -1, 256, 0, -128, -128, -129, 127, -1, -1, 383, 127, Long.MAX_VALUE, -1, NONE, 0};
    long[] shorts = {32767, 32767, 32768, -32768, 65535, -1, 65536, 0, -32768, -32768, -32769, 32767, -1, -1, Long.MAX_VALUE, -1, NONE, 0};
    long[] ints = {LAST, LAST, LAST + 1L, FIRST, 0xffffffffL, -1, 1L << 32, 0, FIRST, FIRST, FIRST - 1L, LAST, Long.MAX_VALUE, -1, NONE, 0};
    long[] longs = {Long.MAX_VALUE, Long.MAX_VALUE, NONE, NONE, -1, -1, 1L << 32, 1L << 32, 0, 0};
    long[] booleans = {0, 0, 1, 1, 2, 1, -1, 1, 256, 1, 65536, 1, 1L << 32, 1, Long.MAX_VALUE, 1, NONE, 1};
    long[][] all = {bytes, shorts, ints, longs, booleans};
    for (int sort = BYTES; sort <= BOOLEANS; sort++) {
      for (int i = 0; i < all[sort].length; i += 2) {
        kept(sort, all[sort][i], all[sort][i + 1]);
      }
    }
    UmpireLost x = new UmpireLost();
    row(x, 3, BOOLEANS, 1, 7);
    due("put(3, 1, 0)", x.put(3, 1, 0), 1);
    due("element(3, 1)", x.element(3, 1), 0);
    due("element(3, 0)", x.element(3, 0), 1);
  }

  private static void putRefusals() {
    Stand house = Stand.house();
    holds(36, "Element i of a ROW becomes v: 1. BAD, -11, -12, -13.");
    for (int shelf : outside(0, 5)) {
      refused(house, "put(" + shelf + ", 0, 1)", x -> x.put(shelf, 0, 1), BAD);
    }
    holds(36, REFUSALS);
    refused(house, "put(5, 0, 1), where nothing is", x -> x.put(5, 0, 1), NOTHING_THERE);
    refused(house, "put(4, 0, 1) of a stool", x -> x.put(4, 0, 1), OTHER_KIND);
    int[] lengths = {6, 3, 2, 3};
    for (int shelf = 0; shelf < 4; shelf++) {
      int each = shelf;
      for (int i : new int[] {-1, FIRST, lengths[shelf], lengths[shelf] + 1, 59, 60, LAST}) {
        refused(house, "put(" + shelf + ", " + i + ", 77)", x -> x.put(each, i, 77), NO_PLACE);
      }
      due("the last", house.again().put(shelf, lengths[shelf] - 1, 77), 1);
      due("the first", house.again().put(shelf, 0, 77), 1);
    }
    refused(new Stand().does(x -> x.row(0, BYTES, 0)), "put(0, 0, 1) of a row of none", x -> x.put(0, 0, 1), NO_PLACE);
    refused(new Stand().does(x -> x.row(0, BYTES, 60)), "put(0, 60, 1) of sixty", x -> x.put(0, 60, 1), NO_PLACE);
    due("put(0, 59, 1) of sixty", new Stand().does(x -> x.row(0, BYTES, 60)).again().put(0, 59, 1), 1);
    holds(36, FIRST_NAMED);
    refused(house, "put(5, -1, 1), where nothing is", x -> x.put(5, -1, 1), NOTHING_THERE);
    refused(house, "put(4, -1, 1) of a stool", x -> x.put(4, -1, 1), OTHER_KIND);
    refused(house, "put(6, -1, 1)", x -> x.put(6, -1, 1), BAD);
  }

  private static void element() {
    holds(37, SHELVES);
    UmpireLost x = new UmpireLost();
    x.row(0, LONGS, 60);
    for (int i = 0; i < 60; i++) {
      x.put(0, i, 1000000000000L * i + 7);
    }
    for (int i = 0; i < 60; i++) {
      due("element(0, " + i + ")", x.element(0, i), 1000000000000L * i + 7);
    }
    due("element(0, 60)", x.element(0, 60), NONE);
    x.put(0, 3, NONE);
    due("the least of longs", x.element(0, 3), NONE);
    UmpireLost y = Stand.house().again();
    due("of shorts", y.element(1, 2), 6);
    due("of bytes", y.element(0, 2), 5);
    due("of booleans", y.element(3, 2), 1);
    due("of longs", y.element(2, 1), 1L << 40);
  }

  private static void elementRefusals() {
    Stand house = Stand.house();
    holds(37, "Element i of a ROW; Long.MIN_VALUE: BAD, -11 to -13.");
    for (int shelf : outside(0, 5)) {
      refused(house, "element(" + shelf + ", 0)", x -> x.element(shelf, 0), NONE);
    }
    refused(house, "element(5, 0), where nothing is", x -> x.element(5, 0), NONE);
    refused(house, "element(4, 0) of a stool", x -> x.element(4, 0), NONE);
    int[] lengths = {6, 3, 2, 3};
    for (int shelf = 0; shelf < 4; shelf++) {
      int each = shelf;
      for (int i : new int[] {-1, FIRST, lengths[shelf], lengths[shelf] + 1, 60, LAST}) {
        refused(house, "element(" + shelf + ", " + i + ")", x -> x.element(each, i), NONE);
      }
    }
    refused(new Stand().does(x -> x.row(0, BYTES, 0)), "element(0, 0) of a row of none", x -> x.element(0, 0), NONE);
    onlyAnswers(37, "element(0, 0)", x -> x.element(0, 0));
  }

  private static void rowIs(String what, UmpireLost x, int shelf, long... due) {
    for (int i = 0; i < due.length; i++) {
      due(what + ": element " + i, x.element(shelf, i), due[i]);
    }
  }

  private static void shift() {
    holds(38, "n elements of a ROW from i on come to another one (or the same) from j on, as they all were before: n.");
    for (int sort = BYTES; sort <= LONGS; sort++) {
      UmpireLost x = new UmpireLost();
      row(x, 0, sort, 1, 2, 3, 4, 5);
      row(x, 1, sort, 6, 7, 8);
      due("shift(0, 2, 1, 0, 3)", x.shift(0, 2, 1, 0, 3), 3);
      rowIs("to another one", x, 1, 3, 4, 5, NONE);
      rowIs("it stays where it was", x, 0, 1, 2, 3, 4, 5);
      due("shift(0, 0, 0, 1, 4)", x.shift(0, 0, 0, 1, 4), 4);
      rowIs("to the same, onward", x, 0, 1, 1, 2, 3, 4);
      due("shift(0, 1, 0, 0, 4)", x.shift(0, 1, 0, 0, 4), 4);
      rowIs("to the same, backward", x, 0, 1, 2, 3, 4, 4);
      due("shift(0, 0, 0, 0, 5)", x.shift(0, 0, 0, 0, 5), 5);
      rowIs("to where it was", x, 0, 1, 2, 3, 4, 4);
    }
    UmpireLost y = new UmpireLost();
    row(y, 0, BOOLEANS, 1, 0, 1);
    y.row(5, BOOLEANS, 60);
    due("shift(0, 0, 5, 57, 3)", y.shift(0, 0, 5, 57, 3), 3);
    due("elements 57, 58, 59", 100 * y.element(5, 57) + 10 * y.element(5, 58) + y.element(5, 59), 101);
    due("shift(5, 0, 5, 0, 60)", y.shift(5, 0, 5, 0, 60), 60);
  }

  private static void shiftPlaces() {
    Stand rows = new Stand().does(x -> x.row(0, INTS, 5), x -> x.put(0, 4, 9), x -> x.row(1, INTS, 3), x -> x.put(1, 0, 7),
        x -> x.row(2, INTS, 0));
    holds(38, "-13 a place that is not there;");
    int[][] places = {{0, 0, 4}, {3, 0, 3}, {-1, 0, 1}, {0, -1, 1}, {0, 3, 1}, {0, 0, -1}, {6, 0, 0}, {0, 4, 0}, {5, 0, 1}, {2, 0, 4},
      {-1, 0, 0}, {0, -1, 0}, {LAST, 0, 1}, {0, LAST, 1}, {0, 0, LAST}, {LAST, LAST, LAST}, {1, 1, LAST}, {FIRST, 0, 0}, {0, FIRST, 0},
      {0, 0, FIRST}, {FIRST, FIRST, FIRST}, {LAST, 0, FIRST}};
    for (int[] place : places) {
      refused(rows, "shift(0, " + place[0] + ", 1, " + place[1] + ", " + place[2] + ")",
          x -> x.shift(0, place[0], 1, place[1], place[2]), NO_PLACE);
    }
    refused(rows, "shift(0, 0, 2, 0, 1)", x -> x.shift(0, 0, 2, 0, 1), NO_PLACE);
    refused(rows, "shift(2, 0, 0, 0, 1)", x -> x.shift(2, 0, 0, 0, 1), NO_PLACE);
    int[][] good = {{5, 3, 0}, {0, 0, 0}, {0, 0, 3}, {2, 0, 3}, {4, 2, 1}, {5, 0, 0}, {0, 3, 0}};
    for (int[] place : good) {
      due("shift(0, " + place[0] + ", 1, " + place[1] + ", " + place[2] + ")",
          rows.again().shift(0, place[0], 1, place[1], place[2]), place[2]);
    }
    due("shift(2, 0, 2, 0, 0)", rows.again().shift(2, 0, 2, 0, 0), 0);
    due("shift(0, 5, 2, 0, 0)", rows.again().shift(0, 5, 2, 0, 0), 0);
  }

  private static void shiftRefusals() {
    Stand house = Stand.house();
    holds(38, "BAD, -11 (either), -12 (no ROWS, or of unlike sorts), -13.");
    for (int shelf : outside(0, 5)) {
      refused(house, "shift(" + shelf + ", 0, 0, 0, 1)", x -> x.shift(shelf, 0, 0, 0, 1), BAD);
      refused(house, "shift(0, 0, " + shelf + ", 0, 1)", x -> x.shift(0, 0, shelf, 0, 1), BAD);
    }
    refused(house, "shift(5, 0, 0, 0, 1)", x -> x.shift(5, 0, 0, 0, 1), NOTHING_THERE);
    refused(house, "shift(0, 0, 5, 0, 1)", x -> x.shift(0, 0, 5, 0, 1), NOTHING_THERE);
    refused(house, "shift(5, 0, 5, 0, 0)", x -> x.shift(5, 0, 5, 0, 0), NOTHING_THERE);
    refused(house, "shift(4, 0, 0, 0, 1)", x -> x.shift(4, 0, 0, 0, 1), OTHER_KIND);
    refused(house, "shift(0, 0, 4, 0, 1)", x -> x.shift(0, 0, 4, 0, 1), OTHER_KIND);
    refused(house, "shift(4, 0, 4, 0, 0)", x -> x.shift(4, 0, 4, 0, 0), OTHER_KIND);
    for (int shelf = 0; shelf < 4; shelf++) {
      for (int other = 0; other < 4; other++) {
        int from = shelf, to = other;
        if (shelf != other) {
          refused(house, "shift(" + shelf + ", 0, " + other + ", 0, 1)", x -> x.shift(from, 0, to, 0, 1), OTHER_KIND);
        }
      }
    }
    holds(38, FIRST_NAMED);
    refused(house, "shift(6, 0, 5, -1, 1)", x -> x.shift(6, 0, 5, -1, 1), BAD);
    refused(house, "shift(5, 0, 6, -1, 1)", x -> x.shift(5, 0, 6, -1, 1), BAD);
    refused(house, "shift(4, -1, 5, 0, 1)", x -> x.shift(4, -1, 5, 0, 1), NOTHING_THERE);
    refused(house, "shift(5, -1, 4, 0, 1)", x -> x.shift(5, -1, 4, 0, 1), NOTHING_THERE);
    refused(house, "shift(0, -1, 1, 0, -1)", x -> x.shift(0, -1, 1, 0, -1), OTHER_KIND);
    refused(house, "shift(4, 99, 0, 99, 99)", x -> x.shift(4, 99, 0, 99, 99), OTHER_KIND);
    refused(house, "shift(0, 0, 0, 0, -1)", x -> x.shift(0, 0, 0, 0, -1), NO_PLACE);
  }

  private static void taken() {
    holds(39, "What a SHELF holds, taken for a STOOL of KIND k (0 .. 7), or under it: its KIND.");
    int[][] above = {{0}, {0, 1}, {0, 2}, {0, 2, 3}, {0, 1, 4}, {0, 2, 3, 5}, {0, 6}, {0, 1, 4, 7}};
    UmpireLost x = withKinds();
    for (int kind = 0; kind < 8; kind++) {
      x.keep(kind % 6, kind);
      int[] due = new int[8];
      java.util.Arrays.fill(due, OTHER_KIND);
      for (int k : above[kind]) {
        due[k] = kind;
      }
      for (int k = 0; k < 8; k++) {
        due("a stool of kind " + kind + " taken for one of " + k, x.taken(kind % 6, k), due[k]);
      }
    }
    UmpireLost y = withBodies(50).does(z -> z.keep(5, 49)).again();
    due("the fiftieth stool", y.taken(5, 7), 7);
    onlyAnswers(39, "taken(4, 3)", z -> z.taken(4, 3));
  }

  private static void takenRefusals() {
    Stand house = Stand.house();
    holds(39, "BAD, -11, -12.");
    for (int shelf : outside(0, 5)) {
      refused(house, "taken(" + shelf + ", 0)", x -> x.taken(shelf, 0), BAD);
    }
    for (int k : outside(0, 7)) {
      refused(house, "taken(4, " + k + ")", x -> x.taken(4, k), BAD);
    }
    for (int k = 0; k < 8; k++) {
      int each = k;
      refused(house, "taken(5, " + k + "), where nothing is", x -> x.taken(5, each), NOTHING_THERE);
      for (int shelf = 0; shelf < 4; shelf++) {
        int row = shelf;
        refused(house, "taken(" + shelf + ", " + k + ") of a row", x -> x.taken(row, each), OTHER_KIND);
      }
    }
    refused(house, "taken(4, 1) of a twin", x -> x.taken(4, 1), OTHER_KIND);
    refused(house, "taken(4, 5) of a twin", x -> x.taken(4, 5), OTHER_KIND);
    holds(39, FIRST_NAMED);
    refused(house, "taken(5, 8), where nothing is", x -> x.taken(5, 8), BAD);
    refused(house, "taken(0, -1) of a row", x -> x.taken(0, -1), BAD);
  }

  private static void count() {
    holds(40, "How many: 0 PLAYERS, 1 who may judge, 2 bytes on THE TAPE, 3 changes that may be UNDONE, 4 BODIES, 5 bodies that ran in the latest "
        + "act() (all, kept or not). BAD.");
    UmpireLost x = Stand.house().again();
    int[] due = {6, 2, 3, 9, 8, 14};
    for (int what = 0; what < 6; what++) {
      due("count(" + what + ")", x.count(what), due[what]);
      due("count(" + what + ") of a new one", new UmpireLost().count(what), 0);
    }
    for (int what : outside(0, 5)) {
      refused(Stand.house(), "count(" + what + ")", y -> y.count(what), BAD);
    }
    x.redo();
    due("count(3) behind redo()", x.count(3), 10);
    x.law();
    due("count(2) behind law()", x.count(2), 0);
    x.act(8, 0, 0);
    due("count(5) behind an act of no stool", x.count(5), 0);
    x.mend(1, LOST, 254);
    due("count(1) of one less", x.count(1), 1);
    onlyAnswers(40, "count(1)", y -> y.count(1));
  }

  private static void countFull() {
    holds(40, "FULL (-3); STATE (-5): as told; -11 to -14.");
    UmpireLost x = CardSentences.losers(11);
    due("count(0) of eleven", x.count(0), 10);
    due("count(1) of eleven", x.count(1), 10);
    for (int i = 0; i < 121; i++) {
      x.feed('7');
    }
    due("count(2) of 121", x.count(2), 120);
    for (int i = 0; i < 41; i++) {
      x.mend(0, GRUDGE, i + 1);
    }
    due("count(3) of forty-one and more", x.count(3), 40);
    for (int i = 0; i < 51; i++) {
      x.body(i % 8);
    }
    due("count(4) of fifty-one", x.count(4), 50);
    int[] most = {4, 5, 5, 7, 8, 8, 5, 14};
    for (int kind = 0; kind < 8; kind++) {
      x.act(kind, 3, 1);
      due("count(5) of kind " + kind, x.count(5), most[kind]);
    }
    holds(40, "public static final int BAD = -1, NOT = -2, FULL = -3, STATE = -5, VOID = -2000000000;");
    due("BAD", UmpireLost.BAD, BAD);
    due("NOT", UmpireLost.NOT, NOT);
    due("FULL", UmpireLost.FULL, FULL);
    due("STATE", UmpireLost.STATE, STATE);
    due("VOID", UmpireLost.VOID, VOID);
  }
}
