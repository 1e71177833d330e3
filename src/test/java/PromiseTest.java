/** For each promise of the document: ordinary calls, the edges that it names, wrong calls. */
public final class PromiseTest {
  private static final int BAD = -1, NOT = -2, FULL = -3, STATE = -5, VOID = -2000000000;
  private static final long NONE = Long.MIN_VALUE;
  private static final int LAST = Integer.MAX_VALUE, FIRST = Integer.MIN_VALUE;
  private static int checked = 0, wrong = 0, promise = 0;

  public static void main(String[] args) {
    newObject();
    player();
    players();
    mendAndOf();
    feedAndLaw();
    lawFaults();
    lawValues();
    odds();
    judgesAndBest();
    cards();
    behind();
    atOnce();
    tomorrow();
    order();
    ring();
    thrown();
    threeAndStreak();
    byTurns();
    drawn();
    matchAndDay();
    lemonadeAndLed();
    imageAndBack();
    undoAndRedo();
    undoLimits();
    stools();
    acts();
    shelves();
    elements();
    shift();
    taken();
    count();
    System.out.println(checked + " checks, " + wrong + " wrong");
    if (wrong != 0) {
      System.exit(1);
    }
  }

  private static void due(String call, long got, long want) {
    checked++;
    if (got != want) {
      wrong++;
      System.out.println("promise " + promise + ": " + call + " answered " + got + ", due is " + want);
    }
  }

  private static UmpireLost of(int... skills) {
    UmpireLost x = new UmpireLost();
    for (int skill : skills) {
      x.player(skill);
    }
    return x;
  }

  private static void row(UmpireLost x, int shelf, int sort, long... values) {
    x.row(shelf, sort, values.length);
    for (int i = 0; i < values.length; i++) {
      x.put(shelf, i, values[i]);
    }
  }

  private static int text(UmpireLost x, String text) {
    for (int i = 0; i < text.length(); i++) {
      x.feed(text.charAt(i));
    }
    return x.law();
  }

  private static String times(String part, int n) {
    return part.repeat(n);
  }

  private static void newObject() {
    promise = 1;
    UmpireLost x = new UmpireLost();
    for (int what = 0; what < 6; what++) {
      due("count", x.count(what), 0);
    }
    for (int shelf = 0; shelf < 6; shelf++) {
      due("taken", x.taken(shelf, 0), -11);
    }
    for (int what = 0; what < 5; what++) {
      due("led", x.led(what), 0);
    }
    due("day", x.of(0, 4), 0);
    due("seed", x.of(0, 5), 1);
    due("back", x.back(), STATE);
    due("undo", x.undo(), STATE);
    due("redo", x.redo(), STATE);
    due("trace", x.trace(0), BAD);
    due("law of an empty tape", x.law(), -100);
    due("two objects share nothing", of(3).count(0) + new UmpireLost().count(0), 1);
  }

  private static void player() {
    promise = 2;
    UmpireLost x = new UmpireLost();
    due("player(-1)", x.player(-1), BAD);
    due("player(10)", x.player(10), BAD);
    for (int i = 0; i < 10; i++) {
      due("player", x.player(i), i);
      due("skill", x.of(i, 0), i);
      due("the rest", x.of(i, 1) + x.of(i, 2) + x.of(i, 3), 0);
    }
    due("player(0) of eleven", x.player(0), FULL);
    due("player(10) of eleven", x.player(10), BAD);
    due("count", x.count(0), 10);
  }

  private static void players() {
    promise = 3;
    UmpireLost x = new UmpireLost();
    due("shelf -1", x.players(-1, 0, 1), BAD);
    due("shelf 6", x.players(6, 0, 1), BAD);
    due("n 0", x.players(0, 0, 0), BAD);
    due("n 11", x.players(0, 0, 11), BAD);
    due("a missing row", x.players(0, 0, 10), 0);
    row(x, 0, 0, 1, 2, 3);
    due("bytes", x.players(0, 0, 1), -12);
    due("n 0 of bytes", x.players(0, 0, 0), BAD);
    x.body(0);
    x.keep(0, 0);
    due("a stool", x.players(0, 0, 1), -12);
    row(x, 0, 1, 9, 99, 255, 0, 0, 0, 7, 8);
    due("beyond the end", x.players(0, 8, 1), 0);
    due("far beyond the end", x.players(0, LAST, 1), 0);
    due("ahead of the row", x.players(0, -1, 1), 0);
    due("within the last three", x.players(0, 6, 1), 0);
    due("two and a piece", x.players(0, 0, 3), 2);
    due("skill 0", x.of(0, 0), 9);
    due("grudge 0", x.of(0, 1), 99);
    due("lost 0", x.of(0, 2), 255);
    due("today 0", x.of(0, 3), 0);
    due("from a place on", x.players(0, 3, 1), 1);
    row(x, 0, 1, 10, 0, 0);
    due("skill 10", x.players(0, 0, 1), 0);
    row(x, 0, 1, 1, 100, 0);
    due("grudge 100", x.players(0, 0, 1), 0);
    row(x, 0, 1, 1, 1, 256);
    due("lost 256", x.players(0, 0, 1), 0);
    row(x, 0, 1, -1, 1, 1);
    due("skill -1", x.players(0, 0, 1), 0);
    row(x, 0, 1, 5, 6, 7, 1, -1, 1, 1, 1, 1);
    due("one, then none", x.players(0, 0, 3), 1);
    due("four came", x.count(0), 4);
    due("skill of the fourth", x.of(3, 0), 5);
    x.row(0, 1, 60);
    due("as many as there is room", x.players(0, 0, 10), 6);
    due("when full", x.players(0, 0, 1), 0);
    due("nothing to undo", x.undo(), STATE);
  }

  private static void mendAndOf() {
    int[] most = {9, 99, 255, 3, 99};
    int[] first = {4, 0, 0, 0, 0, 1};
    UmpireLost x = of(4, 4);
    for (int what = 0; what < 5; what++) {
      promise = 4;
      due("too much", x.mend(0, what, most[what] + 1), VOID);
      due("too little", x.mend(0, what, -1), VOID);
      due("most", x.mend(0, what, most[what]), first[what]);
      due("least", x.mend(0, what, 0), most[what]);
      due("the same", x.mend(0, what, 0), 0);
      promise = 5;
      due("of", x.of(0, what), 0);
    }
    promise = 4;
    due("seed", x.mend(0, 5, FIRST), 1);
    due("seed", x.mend(0, 5, LAST), FIRST);
    promise = 5;
    due("seed", x.of(0, 5), LAST);
    for (int number : new int[] {-1, 2, 10, LAST, FIRST}) {
      for (int what = 0; what < 6; what++) {
        promise = 4;
        due("no such one", x.mend(number, what, 1), VOID);
        promise = 5;
        due("no such one", x.of(number, what), VOID);
      }
    }
    for (int what : new int[] {-1, 6, LAST, FIRST}) {
      promise = 4;
      due("no such number", x.mend(0, what, 1), VOID);
      promise = 5;
      due("no such number", x.of(0, what), VOID);
    }
    promise = 4;
    due("day of 1", x.mend(1, 4, 1), VOID);
    due("grudge of the other one", x.mend(1, 1, 7), 0);
    promise = 5;
    due("grudge of 0", x.of(0, 1), 0);
    due("grudge of 1", x.of(1, 1), 7);
    due("seed without players", new UmpireLost().of(0, 5), 1);
    due("skill without players", new UmpireLost().of(0, 0), VOID);
  }

  private static void feedAndLaw() {
    promise = 6;
    UmpireLost x = of(5, 5, 5);
    due("feed(-1)", x.feed(-1), BAD);
    due("feed(256)", x.feed(256), BAD);
    due("feed(255)", x.feed(255), 1);
    due("feed(0)", x.feed(0), 2);
    promise = 7;
    due("law", x.law(), -100);
    due("empty then", x.count(2), 0);
    due("law", text(x, "7"), 1);
    due("empty then", x.count(2), 0);
    due("odds", x.odds(12), 7);
    due("a fault leaves the law", text(x, "3+"), -102);
    due("odds", x.odds(12), 7);
    promise = 6;
    for (int i = 1; i <= 120; i++) {
      due("feed", x.feed(i % 2 == 1 ? '1' : '+'), i);
    }
    due("feed of a full tape", x.feed('1'), FULL);
    due("feed(256) of a full tape", x.feed(256), BAD);
    promise = 7;
    due("ends too early", x.law(), -220);
    due("as long as can be", text(x, times("0+", 59) + "11"), 1);
    due("odds", x.odds(12), 11);
    due("no byte of it without a part in it", text(x, "!0" + times("+0", 57) + "+7-1"), 1);
    due("odds", x.odds(12), 7);
    UmpireLost y = of(5, 5, 5);
    due("as many lines as can be", text(y, times("0?0;", 29) + "0?9;"), -220);
    due("as many lines as can be", text(y, times("0?0;", 29) + "0?0"), 1);
    due("none counts", y.odds(12), 0);
    due("a law is no change", x.undo(), STATE);
  }

  private static void lawFaults() {
    promise = 7;
    String[] good = {
      "0", "9999", "0007", "a", "b", "g", "l", "m", "d", "!a", "-a", "(a)", "!!!!!!a", "------1", "((((((a))))))",
      "!-(!-(a))", "a|b&g<l+m*d", "a<b", "a=b", "a>b", "(a<b)<g", "a?b", "a;b", "a?b;g?l;m", "1-1", "1--1", "a?b;a?b",
      "((((((a))))))+((((((b))))))", "!!!!!!a|!!!!!!b", "(a|b)*-3", "a/b%g",
    };
    for (String text : good) {
      due(text, text(new UmpireLost(), text), 1);
    }
    String[] faulty = {
      "", "+", "a+", "ab", "12345", "a<b<g", "a<b=g", "a?b?g", "a;", ";a", "a;;b", "?a", "(a", "(a?b)", "(a;b)", "a)", "()",
      "!!!!!!!a", "(((((((a", "-------1", "!(-!(-(a", "a b", " a", "c", "A", "e", "a==b", "a&&b", "a!b", "1a", "a1", "a*+b",
      "a?", "a?;b", "a<", "(a)(b)", "a(", "!!!!!!(a)",
    };
    int[] fault = {
      0, 0, 2, 1, 4, 3, 3, 3, 2, 0, 2, 0, 2, 2, 2, 1, 1,
      6, 6, 6, 6, 1, 0, 0, 0, 0, 2, 2, 1, 1, 1, 2,
      2, 2, 2, 3, 1, 6,
    };
    for (int i = 0; i < faulty.length; i++) {
      due(faulty[i], text(new UmpireLost(), faulty[i]), -100 - fault[i]);
    }
    UmpireLost x = new UmpireLost();
    x.feed('a');
    x.feed(200);
    due("a byte of 200", x.law(), -101);
  }

  private static void lawValues() {
    promise = 7;
    UmpireLost x = of(5, 7, 3);
    x.mend(2, 1, 60);
    x.mend(2, 2, 7);
    x.mend(0, 2, 129);
    x.mend(0, 4, 11);
    String[] texts = {
      "a", "b", "l", "m", "d", "g/6", "13", "0-1", "-1+4", "!5", "!0", "!!5", "5|0", "0|0", "5&2", "5&0", "3<4", "4<4", "4=4",
      "4>3", "7/2", "0-7/2+9", "0-7%4+9", "7/0+2", "7%0+3", "2+3*2", "(2+3)*2", "9-4-3", "8/2/2", "0?9;4", "1?9;4", "0?1;0?2",
      "a>b?1;a<b?2;3", "0|1&0", "1|0&0", "1<2+3", "2*-3+9", "-(3-9)", "9999*9999*9999*9999%7+7", "5?6", "0?6", "0;7",
      "1+1=2", "!a+3", "!(a+3)", "11/3%2", "0-9999*9999*25-9999*9999*25<0", "-2*-3",
    };
    int[] values = {
      5, 7, 3, 2, 11, 10, 12, 0, 3, 0, 1, 1, 1, 0, 1, 0, 1, 0, 1,
      1, 3, 6, 6, 2, 3, 8, 10, 2, 2, 4, 9, 0,
      2, 0, 1, 1, 3, 6, 9999 * 9999 * 9999 * 9999 % 7 + 7, 6, 0, 0,
      1, 3, 0, 1, 0 - 9999 * 9999 * 25 - 9999 * 9999 * 25 < 0 ? 1 : 0, 6,
    };
    for (int i = 0; i < texts.length; i++) {
      due(texts[i], text(x, texts[i]), 1);
      due(texts[i], x.odds(12), values[i]);
    }
    due("the least int by -1", text(x, "(-2147*1000*1000-483*1000-648)/-1<0"), 1);
    due("wraps", x.odds(12), 1);
    due("the least int by the rest of -1", text(x, "(-2147*1000*1000-483*1000-648)%-1+5"), 1);
    due("is 0", x.odds(12), 5);
  }

  private static void odds() {
    promise = 8;
    UmpireLost x = of(5, 5, 5);
    due("alike", x.odds(12), 6);
    x.mend(0, 0, 7);
    due("the one is better", x.odds(12), 8);
    due("the other one is better", x.odds(102), 4);
    x.mend(2, 1, 39);
    due("grudge 39", x.odds(12), 9);
    x.mend(2, 1, 99);
    due("grudge 99", x.odds(12), 12);
    x.mend(0, 2, 254);
    due("seven days lost", x.odds(12), 9);
    x.mend(1, 2, 255);
    due("days the other one lost", x.odds(12), 9);
    for (int abu : new int[] {-1, 1000, 11, 100, 101, 110, 112, 3, 13, 23, 312, 999, LAST, FIRST, -12}) {
      due("odds(" + abu + ")", x.odds(abu), BAD);
    }
    x.player(5);
    due("whoever came", x.odds(13), 6 + 2 - 3);
    due("whoever played", x.mend(0, 3, 3) + x.odds(13), 5);
  }

  private static void judgesAndBest() {
    promise = 9;
    UmpireLost x = of(5, 5, 5, 5, 5, 5);
    due("nobody", x.judges(), 0);
    x.mend(0, 2, 1);
    x.mend(2, 2, 254);
    x.mend(3, 2, 255);
    x.mend(5, 2, 3);
    x.mend(5, 3, 1);
    due("who lost yesterday", x.judges(), 41);
    promise = 10;
    due("of like ones the least", x.bestJudge(12), 0);
    x.mend(5, 1, 20);
    due("who played today, too", x.bestJudge(12), 5);
    x.mend(3, 1, 40);
    due("the greatest", x.bestJudge(12), 3);
    due("not the one", x.bestJudge(31), 5);
    due("not the other one", x.bestJudge(13), 5);
    x.mend(1, 0, 9);
    x.mend(2, 0, 0);
    due("of twelve at most", x.bestJudge(12), 0);
    for (int ab : new int[] {-1, 0, 11, 6, 60, 16, 100, 110, LAST, FIRST}) {
      due("bestJudge(" + ab + ")", x.bestJudge(ab), BAD);
    }
    x.mend(5, 2, 0);
    due("the two are the judges", x.bestJudge(3), NOT);
  }

  private static void refusals(UmpireLost x, java.util.function.IntUnaryOperator call) {
    due("shelf -1", call.applyAsInt(-1), BAD);
    due("shelf 6", call.applyAsInt(6), BAD);
    due("nothing", call.applyAsInt(5), -11);
    for (int sort = 1; sort < 5; sort++) {
      x.row(5, sort, 6);
      due("a row of sort " + sort, call.applyAsInt(5), -12);
    }
    x.body(0);
    x.keep(5, 0);
    due("a stool", call.applyAsInt(5), -12);
    x.keep(5, -1);
  }

  private static void cards() {
    UmpireLost x = of(5, 5, 5, 5, 5, 5, 5, 5, 5, 5);
    for (int one = 0; one < 10; one++) {
      x.mend(one, 2, 1);
    }
    promise = 11;
    refusals(x, x::held);
    promise = 12;
    refusals(x, x::loses);
    row(x, 0, 0, 0, 1, 2, 3, 4, 5, 6, 7, 8, 9, 0, 1);
    promise = 11;
    due("three at most of ten", x.held(0), 3);
    promise = 12;
    due("of even odds the one wins", x.loses(0), 2 + 16 + 128);
    x.mend(3, 0, 4);
    due("below even he loses", x.loses(0), 2 + 8 + 128);
    x.mend(9, 3, 2);
    due("who lost ahead does not count", x.loses(0), 2 + 8 + 128);
    promise = 11;
    x.mend(4, 3, 1);
    due("who played ends it", x.held(0), 1);
    x.mend(4, 3, 0);
    x.mend(5, 2, 254);
    due("who did not lose yesterday ends it", x.held(0), 1);
    row(x, 0, 0, 0, 1, 2, 10, 4, 5, 6, 7, 8);
    due("no player ends it", x.held(0), 1);
    row(x, 0, 0, 0, 1, 2, -1, 4, 5, 6, 7, 8);
    due("-1 ends it", x.held(0), 1);
    row(x, 0, 0, 0, 1, 2, 3, 3, 6);
    due("like ones end it", x.held(0), 1);
    row(x, 0, 0, 0, 1, 2, 3, 2, 6);
    due("one who judged ends it", x.held(0), 1);
    row(x, 0, 0, 0, 1, 2, 3, 4);
    due("a piece of a three", x.held(0), 1);
    row(x, 0, 0, 3, 4);
    due("a missing umpire is not 0", x.held(0), 0);
    row(x, 0, 0);
    due("an empty row", x.held(0), 0);
    due("nothing changed", x.of(0, 3), 0);
  }

  private static void behind() {
    promise = 13;
    UmpireLost x = of(5, 5, 5, 5);
    refusals(x, shelf -> x.behind(shelf, 1, 0, 0));
    x.mend(0, 2, 1);
    x.mend(1, 2, 1);
    x.mend(2, 2, 1);
    x.mend(2, 1, 98);
    row(x, 0, 0, 0, 1, 2, 0, 3, 1);
    due("lost of 1", x.behind(0, 1, 1, 0), 3);
    due("grudge of 1", x.behind(0, 1, 1, 1), 3);
    due("grudge of 2", x.behind(0, 1, 2, 1), 97);
    due("grudge of 0", x.behind(0, 1, 0, 1), 0);
    due("judges", x.behind(0, 1, 0, 2), 2);
    due("held", x.behind(0, 1, 0, 3), 1);
    due("held in all", x.behind(0, 20, 0, 3), 1);
    due("no day", x.behind(0, 0, 0, 3), 0);
    due("no day", x.behind(0, 0, 0, 2), 7);
    row(x, 1, 0, 3, 0, 1);
    x.mend(3, 0, 0);
    due("he loses", x.behind(1, 1, 3, 0), 1);
    for (int seed = 0; seed < 12; seed++) {
      x.mend(0, 5, 1000 * seed);
      due("by odds, whatever the seed", x.behind(0, 1, 1, 0) + x.behind(1, 1, 3, 0), 3 + 1);
    }
    due("the umpire did not", x.behind(1, 2, 0, 3), 1);
    text(x, "d*6");
    due("by the day", x.behind(1, 1, 0, 2), 8);
    x.mend(0, 4, 1);
    due("by the day", x.behind(1, 1, 0, 2), 1);
    x.mend(0, 3, 2);
    x.mend(0, 1, 97);
    due("today counts", x.behind(1, 1, 0, 0), 3);
    due("grudge 99 at most", x.behind(1, 1, 0, 1), 99);
    x.mend(0, 3, 3);
    due("nobody is free on the first day", x.behind(1, 1, 0, 3), 0);
    due("who could judge did not lose", x.behind(1, 2, 0, 3), 0);
    for (int n : new int[] {-1, 21, LAST, FIRST}) {
      due("n " + n, x.behind(0, n, 0, 0), BAD);
    }
    for (int what : new int[] {-1, 4, LAST}) {
      due("what " + what, x.behind(0, 1, 0, what), BAD);
    }
    due("no such one", x.behind(0, 1, 4, 0), BAD);
    due("no such one", x.behind(0, 1, -1, 1), BAD);
    due("one for all", x.behind(0, 1, 1, 2), BAD);
    due("one for all", x.behind(0, 1, 1, 3), BAD);
    due("BAD ahead of -11", x.behind(5, 21, 0, 0), BAD);
    due("nothing changed", x.of(0, 4), 1);
  }

  private static void atOnce() {
    promise = 14;
    UmpireLost x = of(5, 5, 5, 5, 5, 5, 5, 5, 5);
    due("nobody may judge", x.atOnce(-1), 0);
    x.mend(0, 2, 1);
    due("one may", x.atOnce(-1), 1);
    due("the first", x.atOnce(0), 120);
    x.mend(1, 2, 1);
    due("the first of two", x.atOnce(0), 230);
    due("the umpire of the second is kept", x.atOnce(1), 451);
    x.mend(2, 2, 1);
    due("three", x.atOnce(-1), 3);
    due("the first of three", x.atOnce(0), 340);
    due("the second of three", x.atOnce(1), 561);
    due("the third of three", x.atOnce(2), 782);
    due("a fourth", x.atOnce(3), NOT);
    due("far beyond", x.atOnce(LAST), NOT);
    due("-2", x.atOnce(-2), BAD);
    due("the least", x.atOnce(FIRST), BAD);
    x.mend(8, 3, 1);
    due("one is not free", x.atOnce(-1), 2);
    due("so the first", x.atOnce(0), 31);
    due("and the second", x.atOnce(1), 452);
    x.mend(0, 3, 3);
    due("an umpire is not free", x.atOnce(0), 341);
    due("and the second", x.atOnce(1), 562);
    x.mend(7, 3, 2);
    due("who lost is free", x.atOnce(-1), 2);
  }

  private static void tomorrow() {
    promise = 15;
    UmpireLost x = of(5, 6, 7, 7, 5);
    due("nobody may judge", x.tomorrow(0), NOT);
    x.mend(4, 2, 1);
    x.mend(3, 2, 1);
    due("of like ones the least", x.tomorrow(0), 203);
    x.mend(4, 1, 20);
    due("by a better umpire", x.tomorrow(0), 203);
    x.mend(3, 0, 9);
    due("the strongest by the other umpire", x.tomorrow(0), 304);
    due("who may judge plays, too", x.tomorrow(4), 203);
    x.mend(2, 3, 1);
    due("who is not free", x.tomorrow(4), 103);
    x.mend(0, 3, 1);
    due("one who is not free", x.tomorrow(0), NOT);
    due("-1", x.tomorrow(-1), BAD);
    due("5", x.tomorrow(5), BAD);
  }

  private static void order() {
    promise = 16;
    UmpireLost x = of(5, 5, 5, 5);
    refusals(x, shelf -> x.order(shelf, 0));
    due("BAD ahead of -11", x.order(5, -2), BAD);
    due("-11 ahead of NOT", x.order(5, 9), -11);
    row(x, 0, 0, 3, 0, 0, 2);
    due("none is upset", x.order(0, -1), 0);
    int[] inOrder = {1, 3, 0, 2, NOT, NOT};
    for (int k = 0; k < 6; k++) {
      due("order " + k, x.order(0, k), inOrder[k]);
    }
    row(x, 0, 0, 0, 1, 1, 0, 1, 0);
    due("told twice counts twice", x.order(0, 0), 1);
    due("one is upset", x.order(0, -1), 1);
    row(x, 0, 0, 3, 2, 2, 1, 1, 3, 1, 1, 4, 0, 0, -1, 9, 3, 1);
    due("others are passed over", x.order(0, -1), 1);
    due("of like orders the first", x.order(0, 0), 0);
    due("of like orders the first", x.order(0, 1), 1);
    due("of like orders the first", x.order(0, 2), 3);
    long[] many = new long[60];
    for (int i = 0; i < 60; i += 2) {
      many[i] = i < 40 ? 1 : 3;
      many[i + 1] = i < 40 ? 0 : 2;
    }
    row(x, 0, 0, many);
    due("twenty twos at most", x.order(0, 2), 2);
    due("twenty twos at most", x.order(0, 0), 1);
    for (int i = 0; i < 40; i += 2) {
      many[i] = i % 4 == 0 ? 0 : 1;
      many[i + 1] = 1 - many[i];
    }
    row(x, 0, 0, many);
    due("half of them upset", x.order(0, -1), 10);
    due("no players", new UmpireLost().order(0, -1), -11);
    UmpireLost ten = of(0, 1, 2, 3, 4, 5, 6, 7, 8, 9);
    long[] chain = new long[18];
    for (int i = 0; i < 9; i++) {
      chain[2 * i] = i + 1;
      chain[2 * i + 1] = i;
    }
    row(ten, 0, 0, chain);
    due("ten in a chain", ten.order(0, -1), 0);
    for (int k = 0; k < 10; k++) {
      due("ten in a chain", ten.order(0, k), 9 - k);
    }
    due("an eleventh", ten.order(0, 10), NOT);
  }

  private static void ring() {
    promise = 17;
    UmpireLost x = of(5, 5, 5, 5, 5);
    refusals(x, x::ring);
    row(x, 0, 0);
    due("no results", x.ring(0), NOT);
    row(x, 0, 0, 0, 1, 1, 2, 0, 2);
    due("no ring", x.ring(0), NOT);
    row(x, 0, 0, 2, 2);
    due("himself", x.ring(0), NOT);
    row(x, 0, 0, 0, 1, 1, 2, 2, 3, 3, 4, 4, 0);
    due("all five", x.ring(0), 5);
    row(x, 0, 0, 0, 1, 1, 2, 2, 3, 3, 4, 4, 0, 3, 1);
    due("a smaller one", x.ring(0), 3);
    row(x, 0, 0, 0, 1, 1, 2, 2, 3, 3, 4, 4, 0, 4, 3);
    due("two", x.ring(0), 2);
    row(x, 0, 0, 0, 1, 1);
    due("a piece of a two", x.ring(0), NOT);
  }

  private static void thrown() {
    promise = 18;
    UmpireLost x = of(5, 7, 3);
    row(x, 0, 0);
    due("nothing came of it", x.thrownBy(0, 12, 0), 1);
    due("nothing came of it", x.thrownBy(0, 12, 1), 2);
    row(x, 0, 0, 1);
    due("won", x.thrownBy(0, 12, 0), 1);
    due("won by 4", x.thrownBy(0, 12, 1), 5);
    row(x, 0, 0, 0, 0, 2, 1);
    due("lost twice", x.thrownBy(0, 12, 0), 121);
    due("lost twice by 8", x.thrownBy(0, 12, 1), 121 + 64);
    row(x, 0, 0, 0, 0, 0, 0, 0, 0, 0, 0, 1, 1);
    due("eight at most", x.thrownBy(0, 12, 0), 214358881);
    due("eight at most", x.thrownBy(0, 12, 1), 214358881 + 16777216);
    text(x, "0");
    row(x, 0, 0, 1, 0);
    due("he cannot win", x.thrownBy(0, 12, 0), 1);
    due("he cannot win", x.thrownBy(0, 12, 1), 1);
    row(x, 0, 0, 0, -1);
    due("he always loses", x.thrownBy(0, 12, 0), 11);
    due("he always loses", x.thrownBy(0, 12, 1), 23);
    due("part -1", x.thrownBy(0, 12, -1), NONE);
    due("part 2", x.thrownBy(0, 12, 2), NONE);
    due("like ones", x.thrownBy(0, 11, 0), NONE);
    due("no such one", x.thrownBy(0, 13, 0), NONE);
    due("shelf -1", x.thrownBy(-1, 12, 0), NONE);
    due("shelf 6", x.thrownBy(6, 12, 0), NONE);
    due("nothing", x.thrownBy(1, 12, 0), NONE);
    x.row(1, 1, 1);
    due("shorts", x.thrownBy(1, 12, 0), NONE);
  }

  private static void threeAndStreak() {
    promise = 19;
    UmpireLost x = of(5, 5, 5, 5, 5, 5);
    int[] lost = {7, 224, 219, 255, 0, 56};
    for (int one = 0; one < 6; one++) {
      x.mend(one, 2, lost[one]);
    }
    due("three", x.three(), 1 + 2 + 8 + 32);
    promise = 20;
    UmpireLost y = of(5, 7, 3);
    long[] above = {1, 2, 4, 8, 16, 32, 64}, below = {1, 3, 9, 27, 81, 243, 729};
    for (int k = 0; k < 7; k++) {
      due("streak", y.streak(12, k, 0), above[k]);
      due("streak", y.streak(12, k, 1), below[k]);
    }
    text(y, "12");
    due("he never loses", y.streak(12, 6, 0), 0);
    due("he never loses", y.streak(12, 6, 1), 1);
    due("none to lose", y.streak(12, 0, 0), 1);
    text(y, "0");
    due("he always loses", y.streak(12, 6, 0), 1);
    due("he always loses", y.streak(12, 6, 1), 1);
    text(y, "1");
    due("eleven of twelve", y.streak(12, 6, 0), 1771561);
    due("eleven of twelve", y.streak(12, 6, 1), 2985984);
    due("k -1", y.streak(12, -1, 0), NONE);
    due("k 7", y.streak(12, 7, 0), NONE);
    due("part 2", y.streak(12, 1, 2), NONE);
    due("part -1", y.streak(12, 1, -1), NONE);
    due("like ones", y.streak(0, 1, 0), NONE);
  }

  private static void byTurns() {
    promise = 21;
    UmpireLost x = of(5, 5, 5);
    due("chalk", x.byTurns(12, 1, 0), 7);
    due("chalk", x.byTurns(12, 1, 1), 1);
    due("and lemonade", x.byTurns(12, 2, 0), 6);
    due("nothing first", x.byTurns(12, 2, 1), 2);
    due("whoever is last", x.byTurns(12, 3, 0), 7);
    text(x, "g=0");
    due("it is so", x.byTurns(12, 1, 1), 2);
    x.mend(2, 1, 19);
    due("lemonade, 0 at least", x.byTurns(12, 1, 1), 0);
    due("lemonade", x.byTurns(12, 1, 0), 1);
    due("the other one undoes it", x.byTurns(12, 2, 0), 0);
    x.mend(2, 1, 80);
    text(x, "g>98");
    due("chalk, 99 at most", x.byTurns(12, 1, 1), 1);
    x.mend(2, 1, 79);
    text(x, "g>98");
    due("99 at most", x.byTurns(12, 1, 0), 1);
    text(x, "(g=59)|(g=99)");
    due("of lemonade and chalk the least", x.byTurns(12, 1, 1), 0);
    due("grudge stays", x.of(2, 1), 79);
    due("n 0", x.byTurns(12, 0, 0), BAD);
    due("n 6", x.byTurns(12, 6, 0), BAD);
    due("what 2", x.byTurns(12, 1, 2), BAD);
    due("what -1", x.byTurns(12, 1, -1), BAD);
    due("like ones", x.byTurns(22, 1, 0), BAD);
    due("no such one", x.byTurns(13, 1, 0), BAD);
  }

  private static void drawn() {
    promise = 22;
    UmpireLost x = of(5, 5, 5, 5, 5, 5);
    refusals(x, shelf -> x.drawn(1, shelf, 101, -1));
    x.mend(2, 2, 1);
    x.mend(5, 2, 1);
    row(x, 0, 0, 0, 1, 2, 3, 4, 5);
    int z = 99, wins = 0, others = 0;
    for (int season = 0; season < 30; season++) {
      z = z * 1103515245 + 12345;
      wins += (z >>> 8) % 12 < 6 ? 1 : 0;
      others += (z >>> 8) % 12 < 6 ? 0 : 1;
      z = z * 1103515245 + 12345;
    }
    due("how often the one wins", x.drawn(99, 0, 3001, 0), wins);
    due("how often the other one wins", x.drawn(99, 0, 3001, 1), others);
    due("how often the umpire wins", x.drawn(99, 0, 3001, 2), 0);
    due("held", x.drawn(99, 0, 3001, -1), 60);
    due("held", x.drawn(99, 0, 3020, -1), 60);
    due("the same seed", x.drawn(99, 0, 3001, 0), wins);
    row(x, 0, 0, 0, 1, 2);
    row(x, 1, 0, 1, 0, 2);
    text(x, "12");
    due("always", x.drawn(7, 0, 720, 0), 7);
    due("always", x.drawn(7, 1, 720, 1), 7);
    text(x, "0");
    due("never", x.drawn(7, 0, 720, 0), 0);
    for (int nm : new int[] {0, 1, 100, 121, 199, 3101, 3100, -101, LAST, FIRST}) {
      due("nm " + nm, x.drawn(1, 0, nm, -1), BAD);
    }
    due("no such one", x.drawn(1, 0, 101, 6), BAD);
    due("no such one", x.drawn(1, 0, 101, -2), BAD);
    due("BAD ahead of -11", x.drawn(1, 5, 101, 6), BAD);
    due("nothing changed", x.of(0, 5), 1);
    due("nothing changed", x.of(0, 3) + x.of(0, 4) + x.led(0), 0);
  }

  private static void matchAndDay() {
    promise = 23;
    UmpireLost x = of(5, 5, 5, 5, 5);
    due("nobody lost yesterday", x.match(12), STATE);
    for (int abu : new int[] {-1, 0, 11, 5, 1000, 122, LAST, FIRST}) {
      due("match(" + abu + ")", x.match(abu), BAD);
    }
    due("the seed stays", x.of(0, 5), 1);
    x.mend(2, 2, 1);
    x.mend(3, 2, 1);
    text(x, "12");
    due("he wins", x.match(12), 1);
    due("the seed goes on", x.of(0, 5), 1103515245 + 12345);
    due("today of 0", x.of(0, 3), 1);
    due("today of 1", x.of(1, 3), 3);
    due("today of 2", x.of(2, 3), 1);
    due("the one played", x.match(43), STATE);
    due("the umpire judged", x.match(342), STATE);
    due("the other one played", x.match(413), STATE);
    x.mend(0, 3, 2);
    text(x, "0");
    due("he loses", x.match(403), 0);
    due("today of 4", x.of(4, 3), 3);
    due("lost stays marked", x.of(0, 3), 3);
    promise = 25;
    x.mend(1, 1, 98);
    x.mend(3, 1, 2);
    due("day", x.day(), 1 + 2 + 16);
    due("losers", x.led(4), 3);
    due("lost of 2", x.of(2, 2), 2);
    due("grudge of 1", x.of(1, 1), 99);
    due("grudge of 3", x.of(3, 1), 1);
    due("grudge of 2", x.of(2, 1), 0);
    due("today is 0", x.of(1, 3) + x.of(0, 3), 0);
    due("day", x.of(0, 4), 1);
    x.mend(0, 2, 128);
    x.mend(0, 4, 99);
    due("day", x.day(), 0);
    due("the latest eight", x.of(0, 2), 0);
    due("day 99 stays", x.of(0, 4), 99);
    promise = 23;
    UmpireLost y = of(5, 5, 5);
    y.mend(2, 2, 255);
    int z = 77;
    y.mend(0, 5, z);
    for (int i = 0; i < 8; i++) {
      z = z * 1103515245 + 12345;
      due("by draws", y.match(12), (z >>> 8) % 12 < 6 ? 1 : 0);
      due("seed", y.of(0, 5), z);
      y.mend(0, 3, 0);
      y.mend(1, 3, 0);
      y.mend(2, 3, 0);
    }
  }

  private static void lemonadeAndLed() {
    promise = 24;
    UmpireLost x = of(5, 5, 5);
    x.mend(0, 1, 45);
    due("lemonade", x.lemonade(0), 25);
    due("lemonade", x.lemonade(0), 5);
    due("0 at least", x.lemonade(0), 0);
    due("grudge", x.of(0, 1), 0);
    due("3", x.lemonade(3), BAD);
    due("-1", x.lemonade(-1), BAD);
    promise = 26;
    due("lemonade led", x.led(2), 3);
    x.mend(2, 2, 1);
    x.match(12);
    x.match(12);
    due("matches", x.led(0), 1);
    due("won by the one", x.led(1), x.of(1, 3) >> 1);
    due("no losers yet", x.led(4), 0);
    x.day();
    due("days", x.led(3), 1);
    due("losers", x.led(4), 1);
    x.day();
    due("days", x.led(3), 2);
    due("losers", x.led(4), 1);
    due("-1", x.led(-1), BAD);
    due("5", x.led(5), BAD);
  }

  private static void imageAndBack() {
    UmpireLost x = of(5, 5, 5);
    x.mend(2, 2, 1);
    x.mend(2, 1, 30);
    x.match(12);
    promise = 27;
    due("image", x.image(), 1);
    int seed = x.of(0, 5), today = x.of(0, 3);
    x.lemonade(2);
    x.day();
    x.mend(0, 0, 9);
    x.mend(0, 2, 1);
    x.mend(1, 2, 1);
    x.match(120);
    x.player(3);
    x.mend(3, 1, 50);
    x.mend(3, 2, 5);
    promise = 28;
    due("back", x.back(), 1);
    due("seed", x.of(0, 5), seed);
    due("today", x.of(0, 3), today);
    due("grudge", x.of(2, 1), 30);
    due("lost", x.of(2, 2), 1);
    due("day", x.of(0, 4), 0);
    due("skill stays", x.of(0, 0), 9);
    due("who came since", x.of(3, 1), 50);
    due("who came since", x.of(3, 2), 5);
    due("led", x.led(0) + 10 * x.led(2) + 100 * x.led(3) + 1000 * x.led(4), 1);
    due("changes stay (who lost had lost already)", x.count(3), 6);
    x.day();
    due("again", x.back(), 1);
    due("again", x.of(0, 4), 0);
    x.day();
    promise = 27;
    due("another image", x.image(), 1);
    x.day();
    promise = 28;
    x.back();
    due("the latest", x.of(0, 4), 1);
  }

  private static void undoAndRedo() {
    promise = 29;
    UmpireLost x = of(5, 5);
    x.mend(0, 0, 6);
    x.mend(0, 0, 6);
    x.mend(1, 1, 40);
    x.mend(0, 5, 8);
    x.mend(0, 4, 9);
    x.mend(1, 2, 3);
    x.mend(1, 3, 1);
    due("changes", x.count(3), 6);
    due("undo", x.undo(), 5);
    due("today", x.of(1, 3), 0);
    due("undo", x.undo(), 4);
    due("lost", x.of(1, 2), 0);
    due("undo", x.undo(), 3);
    due("day", x.of(0, 4), 0);
    due("undo", x.undo(), 2);
    due("seed", x.of(0, 5), 1);
    promise = 30;
    due("redo", x.redo(), 3);
    due("seed", x.of(0, 5), 8);
    x.mend(0, 0, 6);
    due("the same number is none", x.redo(), 2);
    due("day", x.of(0, 4), 9);
    x.lemonade(1);
    due("lemonade is none", x.redo(), 1);
    due("redo", x.redo(), 0);
    due("today", x.of(1, 3), 1);
    due("redo", x.redo(), STATE);
    promise = 29;
    for (int left = 5; left >= 0; left--) {
      due("undo", x.undo(), left);
    }
    due("undo", x.undo(), STATE);
    due("skill", x.of(0, 0), 5);
    promise = 30;
    x.redo();
    x.mend(1, 0, 1);
    due("another came behind", x.redo(), STATE);
    due("two changes", x.count(3), 2);
    promise = 29;
    UmpireLost y = of(5);
    y.mend(0, 1, 60);
    y.lemonade(0);
    due("undo", y.undo(), 0);
    due("what it was ahead of the change", y.of(0, 1), 0);
    promise = 30;
    due("redo", y.redo(), 0);
    due("what it became by the change", y.of(0, 1), 60);
  }

  private static void undoLimits() {
    promise = 29;
    UmpireLost x = of(5);
    for (int i = 1; i <= 45; i++) {
      x.mend(0, 1, i);
    }
    due("forty are kept", x.count(3), 40);
    for (int left = 39; left >= 0; left--) {
      due("undo", x.undo(), left);
    }
    due("the oldest five stay", x.of(0, 1), 5);
    due("undo", x.undo(), STATE);
    promise = 30;
    for (int left = 39; left >= 0; left--) {
      due("redo", x.redo(), left);
      due("grudge", x.of(0, 1), 45 - left);
    }
    due("redo", x.redo(), STATE);
    due("forty", x.count(3), 40);
  }

  private static void stools() {
    promise = 31;
    UmpireLost x = new UmpireLost();
    due("-1", x.body(-1), BAD);
    due("8", x.body(8), BAD);
    for (int i = 0; i < 50; i++) {
      due("body", x.body(i % 8), i);
    }
    due("full", x.body(0), FULL);
    due("8 when full", x.body(8), BAD);
    due("count", x.count(4), 50);
  }

  private static void traceIs(UmpireLost x, int... bodies) {
    int before = promise;
    promise = 33;
    for (int i = 0; i < bodies.length; i++) {
      due("trace " + i, x.trace(i), bodies[i]);
    }
    due("behind the trace", x.trace(bodies.length), BAD);
    due("-1", x.trace(-1), BAD);
    promise = 40;
    due("how many ran", x.count(5), bodies.length);
    promise = before;
  }

  private static void acts() {
    promise = 32;
    UmpireLost x = new UmpireLost();
    for (int kind = 0; kind < 8; kind++) {
      x.body(kind);
    }
    due("stool judges", x.act(0, 0, 5), 5);
    traceIs(x, 1);
    due("stool calls", x.act(0, 1, 5), 10);
    traceIs(x, 10, 1);
    due("stool loses", x.act(0, 2, 5), 5);
    traceIs(x, 11);
    due("stool tells", x.act(0, 3, 5), 9);
    traceIs(x, 2, 10, 1, 11);
    due("chalk judges", x.act(1, 0, 5), 9);
    traceIs(x, 20, 1);
    due("chalk tells", x.act(1, 3, 5), 18);
    traceIs(x, 2, 10, 20, 1, 11);
    due("crowd calls", x.act(2, 1, 5), -14);
    traceIs(x, 30, 10, 1);
    due("twin loses", x.act(3, 2, 5), (5 ^ 3) * 3);
    traceIs(x, 40, 11);
    due("twin calls", x.act(3, 1, 5), -18);
    traceIs(x, 41, 30, 10, 1);
    due("rain loses", x.act(4, 2, 5), (5 ^ 4) - 9);
    traceIs(x, 50, 11, 20, 1);
    due("net tells", x.act(5, 3, 7), -(7 + 1 + 5) * 2 - (1 ^ 5) * 3 ^ 5);
    traceIs(x, 60, 2, 41, 30, 10, 1, 40, 11);
    due("ball judges", x.act(6, 0, 5), 22);
    traceIs(x, 70, 1);
    due("ball tells", x.act(6, 3, 5), 44 - 7);
    traceIs(x, 2, 10, 70, 1, 11);
    int losesTwo = (2 ^ 7) - (2 + 7 + 3), losesOne = (1 ^ 7) - (2 + 7 + 3);
    due("boy calls", x.act(7, 1, 5), (5 + 7 + 3) * 2 + losesTwo);
    traceIs(x, 80, 10, 20, 1, 50, 11, 20, 1);
    due("boy tells", x.act(7, 3, 5), (5 + 7 + 3) * 2 + losesTwo - losesOne - 1);
    traceIs(x, 81, 2, 80, 10, 20, 1, 50, 11, 20, 1, 50, 11, 20, 1);
    due("it wraps", x.act(6, 0, LAST), (LAST + 6) * 2);
    for (int[] wrong : new int[][] {{-1, 0}, {8, 0}, {0, -1}, {0, 4}, {LAST, LAST}, {FIRST, FIRST}}) {
      x.act(0, 0, 1);
      due("no such act", x.act(wrong[0], wrong[1], 5), 0);
      traceIs(x);
    }
  }

  private static void shelves() {
    promise = 34;
    UmpireLost x = new UmpireLost();
    due("no such stool", x.keep(0, 0), BAD);
    x.body(3);
    due("a stool", x.keep(0, 0), 1);
    due("it is there", x.taken(0, 0), 3);
    due("-2", x.keep(0, -2), BAD);
    due("1", x.keep(0, 1), BAD);
    due("shelf -1", x.keep(-1, 0), BAD);
    due("shelf 6", x.keep(6, -1), BAD);
    due("it is still there", x.taken(0, 0), 3);
    due("nothing", x.keep(0, -1), 1);
    due("it is gone", x.taken(0, 0), -11);
    promise = 35;
    due("shelf -1", x.row(-1, 0, 1), BAD);
    due("shelf 6", x.row(6, 0, 1), BAD);
    due("sort -1", x.row(0, -1, 1), BAD);
    due("sort 5", x.row(0, 5, 1), BAD);
    due("n 61", x.row(0, 0, 61), BAD);
    due("n -1", x.row(0, 0, -1), -14);
    due("the least n", x.row(0, 0, FIRST), -14);
    due("sort ahead of n", x.row(0, 5, -1), BAD);
    due("nothing yet", x.put(0, 0, 1), -11);
    due("row", x.row(0, 3, 60), 1);
    x.put(0, 59, 7);
    due("n -1 leaves the row", x.row(0, 0, -1), -14);
    due("element", x.element(0, 59), 7);
    due("row", x.row(0, 3, 60), 1);
    due("0 at first", x.element(0, 59), 0);
    due("an empty row", x.row(0, 3, 0), 1);
    due("no place", x.element(0, 0), NONE);
    x.keep(0, 0);
    due("a row for a stool", x.row(0, 4, 1), 1);
    due("no stool", x.taken(0, 0), -12);
  }

  private static void elements() {
    UmpireLost x = new UmpireLost();
    long[] put = {255, 40000, 1L << 32 | 1L << 31, Long.MIN_VALUE + 1, 1L << 40};
    long[] got = {-1, -25536, FIRST, Long.MIN_VALUE + 1, 1};
    for (int sort = 0; sort < 5; sort++) {
      x.row(sort, sort, 3);
      promise = 36;
      due("put", x.put(sort, 2, put[sort]), 1);
      due("put", x.put(sort, 3, 1), -13);
      due("put", x.put(sort, -1, 1), -13);
      due("put", x.put(sort, LAST, 1), -13);
      promise = 37;
      due("element", x.element(sort, 2), got[sort]);
      due("element", x.element(sort, 1), 0);
      due("element", x.element(sort, 3), NONE);
      due("element", x.element(sort, -1), NONE);
    }
    x.put(0, 0, 128);
    due("a byte", x.element(0, 0), -128);
    x.put(4, 2, 0);
    due("a boolean", x.element(4, 2), 0);
    promise = 36;
    due("nothing", x.put(5, 0, 1), -11);
    due("shelf -1", x.put(-1, 0, 1), BAD);
    due("shelf 6", x.put(6, 0, 1), BAD);
    promise = 37;
    due("nothing", x.element(5, 0), NONE);
    due("shelf 6", x.element(6, 0), NONE);
    due("shelf -1", x.element(-1, 0), NONE);
    x.body(0);
    x.keep(5, 0);
    due("a stool", x.element(5, 0), NONE);
    promise = 36;
    due("a stool", x.put(5, 0, 1), -12);
    due("a stool ahead of the place", x.put(5, -1, 1), -12);
  }

  private static void shift() {
    promise = 38;
    UmpireLost x = new UmpireLost();
    row(x, 0, 2, 1, 2, 3, 4, 5);
    row(x, 1, 2, 0, 0, 0);
    due("shift", x.shift(0, 1, 1, 0, 3), 3);
    due("it came", 100 * x.element(1, 0) + 10 * x.element(1, 1) + x.element(1, 2), 234);
    due("to the same, onward", x.shift(0, 0, 0, 1, 4), 4);
    due("as they were", x.element(0, 4) + 10 * x.element(0, 3) + 100 * x.element(0, 2) + 1000 * x.element(0, 1), 1234);
    due("to the same, backward", x.shift(0, 1, 0, 0, 4), 4);
    due("as they were", x.element(0, 3) + 10 * x.element(0, 2) + 100 * x.element(0, 1) + 1000 * x.element(0, 0), 1234);
    due("none, at the end", x.shift(0, 5, 1, 3, 0), 0);
    int[][] places = {{0, 0, 4}, {3, 0, 3}, {-1, 0, 1}, {0, -1, 1}, {0, 3, 1}, {0, 0, -1}, {6, 0, 0}, {0, 4, 0},
      {LAST, 0, 1}, {0, LAST, LAST}, {1, 1, LAST}, {0, 0, FIRST}, {FIRST, FIRST, FIRST}};
    for (int[] place : places) {
      due("no such place", x.shift(0, place[0], 1, place[1], place[2]), -13);
    }
    due("shelf -1", x.shift(-1, 0, 1, 0, 1), BAD);
    due("other 6", x.shift(0, 0, 6, 0, 1), BAD);
    due("nothing", x.shift(2, 0, 0, 0, 1), -11);
    due("to nothing", x.shift(0, 0, 2, 0, 99), -11);
    x.row(2, 3, 5);
    due("unlike sorts", x.shift(0, 0, 2, 0, 99), -12);
    x.body(0);
    x.keep(2, 0);
    due("a stool", x.shift(2, 0, 2, 0, 0), -12);
    due("to a stool", x.shift(0, 0, 2, 0, 0), -12);
    due("a stool to nothing", x.shift(2, 0, 3, 0, 0), -11);
  }

  private static void taken() {
    promise = 39;
    int[][] above = {{0}, {1, 0}, {2, 0}, {3, 2, 0}, {4, 1, 0}, {5, 3, 2, 0}, {6, 0}, {7, 4, 1, 0}};
    UmpireLost x = new UmpireLost();
    for (int kind = 0; kind < 8; kind++) {
      x.body(kind);
      x.keep(0, kind);
      for (int k = 0; k < 8; k++) {
        boolean under = false;
        for (int each : above[kind]) {
          under |= each == k;
        }
        due("taken", x.taken(0, k), under ? kind : -12);
      }
    }
    due("shelf -1", x.taken(-1, 0), BAD);
    due("shelf 6", x.taken(6, 0), BAD);
    due("k -1", x.taken(0, -1), BAD);
    due("k 8", x.taken(0, 8), BAD);
    due("k 8 of nothing", x.taken(1, 8), BAD);
    due("nothing", x.taken(1, 0), -11);
    x.row(1, 0, 1);
    due("a row", x.taken(1, 0), -12);
  }

  private static void count() {
    promise = 40;
    UmpireLost x = of(5, 5, 5);
    x.mend(0, 2, 3);
    x.mend(1, 2, 1);
    x.mend(2, 2, 2);
    x.undo();
    x.feed('a');
    x.feed('b');
    x.body(7);
    x.act(0, 3, 1);
    int[] counts = {3, 2, 2, 2, 1, 14};
    for (int what = 0; what < 6; what++) {
      due("count(" + what + ")", x.count(what), counts[what]);
    }
    due("count(-1)", x.count(-1), BAD);
    due("count(6)", x.count(6), BAD);
    due("BAD", UmpireLost.BAD, BAD);
    due("NOT", UmpireLost.NOT, NOT);
    due("FULL", UmpireLost.FULL, FULL);
    due("STATE", UmpireLost.STATE, STATE);
    due("VOID", UmpireLost.VOID, VOID);
  }
}
