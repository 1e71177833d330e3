import java.util.Arrays;

/** Promises 16 to 22: the order by results, rings, what was thrown, lemonade and chalk by turns, seasons by draws. */
final class ResultSentences extends Sentences {
  private static final String RESULTS = "RESULTS: a ROW of bytes: by twos who won, and who lost (20 twos at most; what is no two unlike PLAYERS "
      + "is passed over; one told twice counts twice).";
  private static final int[] NO_THREES = {-1, 1000, FIRST, LAST, 0, 11, 101, 110, 122, 333, 6, 60, 600, 16, 61, 106, -12, 1012};

  static void hold() {
    orderOfResults();
    orderFewest();
    orderRefusals();
    ring();
    ringOfResults();
    ringRefusals();
    thrown();
    thrownEnds();
    thrownRefusals();
    three();
    streak();
    streakRefusals();
    byTurns();
    byTurnsWithin();
    byTurnsLikeOnes();
    byTurnsRefusals();
    drawnMatches();
    drawnSeasons();
    drawnCard();
    drawnNumbers();
    drawnRefusals();
  }

  private static UmpireLost withRow(UmpireLost x, long... bytes) {
    row(x, 0, BYTES, bytes);
    return x;
  }

  /** So often the same two, then another two. */
  private static long[] twos(int often, int winner, int loser, long... more) {
    long[] twos = new long[2 * often + more.length];
    for (int i = 0; i < often; i++) {
      twos[2 * i] = winner;
      twos[2 * i + 1] = loser;
    }
    System.arraycopy(more, 0, twos, 2 * often, more.length);
    return twos;
  }

  private static void orderIs(String what, UmpireLost x, int upset, int... order) {
    due(what + ": how many", x.order(0, -1), upset);
    for (int k = 0; k < order.length; k++) {
      due(what + ": " + k, x.order(0, k), order[k]);
    }
    due(what + ": " + order.length, x.order(0, order.length), NOT);
  }

  private static void orderOfResults() {
    holds(16, RESULTS);
    orderIs("no results", withRow(many(3)), 0, 0, 1, 2);
    orderIs("one byte", withRow(many(3), 1), 0, 0, 1, 2);
    orderIs("one two", withRow(many(3), 1, 0), 0, 1, 0, 2);
    orderIs("a piece of a second", withRow(many(3), 1, 0, 2), 0, 1, 0, 2);
    orderIs("two twos", withRow(many(3), 1, 0, 2, 1), 0, 2, 1, 0);
    orderIs("a two of like ones", withRow(many(3), 1, 1, 2, 2, 2, 0), 0, 1, 2, 0);
    orderIs("twos of no players", withRow(many(3), 3, 0, 2, -1, 127, -128, 10, 1, 2, 0), 0, 1, 2, 0);
    orderIs("told once", withRow(many(2), 0, 1, 1, 0), 1, 0, 1);
    orderIs("told twice", withRow(many(2), 0, 1, 1, 0, 1, 0), 1, 1, 0);
    orderIs("told twice against twice", withRow(many(2), 0, 1, 1, 0, 1, 0, 0, 1), 2, 0, 1);
    orderIs("nineteen and a twentieth", withRow(many(4), twos(19, 1, 0, 3, 2)), 0, 1, 0, 3, 2);
    orderIs("twenty and a twenty-first", withRow(many(4), twos(20, 1, 0, 3, 2)), 0, 1, 0, 2, 3);
    orderIs("ten against ten", withRow(many(2), Arrays.copyOf(twos(10, 1, 0, twos(20, 0, 1)), 60)), 10, 0, 1);
    orderIs("eleven against nine", withRow(many(2), twos(11, 1, 0, twos(19, 0, 1))), 9, 1, 0);
    orderIs("twenty passed over, and a twenty-first", withRow(many(2), twos(20, 1, 1, 1, 0)), 0, 0, 1);
    orderIs("nineteen passed over, and a twentieth", withRow(many(2), twos(19, 1, 1, 1, 0)), 0, 1, 0);
    orderIs("eighteen of 8 against 9, two of 9 against 8", withRow(many(10), twos(18, 8, 9, 9, 8, 9, 8)), 2, 0, 1, 2, 3, 4, 5, 6, 7, 8, 9);
    orderIs("eighteen of 9 against 8, two of 8 against 9", withRow(many(10), twos(18, 9, 8, 8, 9, 8, 9)), 2, 0, 1, 2, 3, 4, 5, 6, 7, 9, 8);
    orderIs("all twenty of one against another", withRow(many(10), twos(20, 9, 8)), 0, 0, 1, 2, 3, 4, 5, 6, 7, 9, 8);
  }

  private static void orderFewest() {
    holds(16, "ORDER of all PLAYERS by which fewest RESULTS are upset (the loser ahead of him who won): how many; the k-th (of like ones the "
        + "first by numbers).");
    orderIs("a ring of three", withRow(many(3), 0, 1, 1, 2, 2, 0), 1, 0, 1, 2);
    orderIs("a ring of three with a stronger last", withRow(many(3), 0, 1, 1, 2, 2, 0, 2, 0), 1, 1, 2, 0);
    orderIs("a chain of ten", withRow(many(10), 9, 8, 8, 7, 7, 6, 6, 5, 5, 4, 4, 3, 3, 2, 2, 1, 1, 0), 0, 9, 8, 7, 6, 5, 4, 3, 2, 1, 0);
    orderIs("two rings of two", withRow(many(4), 0, 1, 1, 0, 2, 3, 3, 2), 2, 0, 1, 2, 3);
    orderIs("two rings of two, each with a stronger last", withRow(many(5), 0, 2, 2, 0, 2, 0, 1, 4, 4, 1, 4, 1), 2, 2, 0, 3, 4, 1);
    orderIs("a ring of two among others", withRow(many(6), 3, 5, 5, 3), 1, 0, 1, 2, 3, 4, 5);
    orderIs("two rings of three", withRow(many(6), 0, 1, 1, 2, 2, 0, 3, 4, 4, 5, 5, 3), 2, 0, 1, 2, 3, 4, 5);
    UmpireLost x = withRow(many(3), 2, 1, 1, 0);
    orderIs("one row", x, 0, 2, 1, 0);
    orderIs("another row behind it", withRow(x, 0, 1), 0, 0, 1, 2);
    orderIs("a row without results behind it", withRow(x), 0, 0, 1, 2);
    orderIs("who won against the last", withRow(many(4), 3, 0), 0, 1, 2, 3, 0);
    orderIs("one alone", withRow(many(1), 0, 0), 0, 0);
    orderIs("nobody", withRow(new UmpireLost(), 0, 1), 0);
  }

  private static void orderRefusals() {
    Stand house = Stand.house();
    holds(16, "ORDER: how many are upset (k -1), the k-th (NOT: there are not as many). BAD, -11, -12 (no ROW of bytes); NOT behind these.");
    CardSentences.onlyBytes((x, shelf) -> x.order(shelf, -1));
    CardSentences.onlyBytes((x, shelf) -> x.order(shelf, 0));
    CardSentences.onlyBytes((x, shelf) -> x.order(shelf, 6));
    CardSentences.onlyBytes((x, shelf) -> x.order(shelf, LAST));
    for (int k : new int[] {6, 7, 10, LAST}) {
      refused(house, "order(0, " + k + ") of six", x -> x.order(0, k), NOT);
    }
    due("order(0, 5) of six", house.again().order(0, 5) >= 0 ? 1 : 0, 1);
    due("order(0, 9) of ten", withRow(many(10)).order(0, 9), 9);
    due("order(0, 10) of ten", withRow(many(10)).order(0, 10), NOT);
    for (int k : new int[] {-2, -3, FIRST}) {
      refused(house, "order(0, " + k + ")", x -> x.order(0, k), BAD);
      refused(house, "order(5, " + k + "), where nothing is", x -> x.order(5, k), BAD);
      refused(house, "order(1, " + k + ") of shorts", x -> x.order(1, k), BAD);
    }
    onlyAnswers(16, "order(0, -1)", x -> x.order(0, -1));
    onlyAnswers(16, "order(0, 3)", x -> x.order(0, 3));
  }

  private static void ring() {
    holds(17, "RING: how many are in the smallest ring of RESULTS (each won against the next); NOT.");
    due("no results", withRow(many(3)).ring(0), NOT);
    due("a chain", withRow(many(3), 0, 1, 1, 2, 0, 2).ring(0), NOT);
    due("two", withRow(many(3), 0, 1, 1, 0).ring(0), 2);
    due("three", withRow(many(3), 2, 1, 1, 0, 0, 2).ring(0), 3);
    due("two rings", withRow(many(6), 0, 1, 1, 2, 2, 3, 3, 0, 5, 4, 4, 2, 3, 5, 2, 5).ring(0), 3);
    long[] ten = new long[20];
    for (int i = 0; i < 10; i++) {
      ten[2 * i] = i;
      ten[2 * i + 1] = (i + 1) % 10;
    }
    due("all ten", withRow(many(10), ten).ring(0), 10);
    due("nine of the ten", withRow(many(10), Arrays.copyOf(ten, 18)).ring(0), NOT);
    due("the ring of ten, of nine players", withRow(many(9), ten).ring(0), NOT);
    UmpireLost x = withRow(many(4), 0, 1, 1, 0);
    due("one row", x.ring(0), 2);
    due("another row behind it", withRow(x, 0, 1, 1, 2, 2, 0).ring(0), 3);
    due("a row without a ring behind it", withRow(x, 0, 1, 1, 2).ring(0), NOT);
    due("one who lies on no ring", withRow(many(4), 0, 1, 1, 2, 2, 3, 3, 1).ring(0), 3);
  }

  private static void ringOfResults() {
    holds(17, RESULTS);
    due("himself", withRow(many(3), 1, 1, 2, 2).ring(0), NOT);
    due("told twice", withRow(many(3), 0, 1, 0, 1).ring(0), NOT);
    due("a piece of a two", withRow(many(3), 0, 1, 1).ring(0), NOT);
    due("a missing loser is not 0", withRow(many(3), 0, 2, 2).ring(0), NOT);
    due("the twentieth", withRow(many(3), twos(19, 0, 1, 1, 0)).ring(0), 2);
    due("the twenty-first", withRow(many(3), twos(20, 0, 1, 1, 0)).ring(0), NOT);
    due("the twentieth behind those passed over", withRow(many(3), twos(18, 0, 7, 0, 1, 1, 0)).ring(0), 2);
    due("the twenty-first behind those passed over", withRow(many(3), twos(19, 0, 7, 0, 1, 1, 0)).ring(0), NOT);
    due("no players", withRow(many(3), 0, 3, 3, 0, -1, 0, 0, -1).ring(0), NOT);
    due("without players", withRow(new UmpireLost(), 0, 1, 1, 0).ring(0), NOT);
  }

  private static void ringRefusals() {
    holds(17, "RING. BAD, -11, -12; NOT behind these.");
    CardSentences.onlyBytes((x, shelf) -> x.ring(shelf));
    refused(Stand.house().does(x -> x.row(0, BYTES, 4)), "ring(0) of like ones", x -> x.ring(0), NOT);
    refused(new Stand(), "ring(0), where nothing is, without players", x -> x.ring(0), NOTHING_THERE);
    onlyAnswers(17, "ring(0)", x -> x.ring(0));
  }

  private static void fractionIs(String what, UmpireLost x, long above, long below) {
    due(what + ", above", x.thrownBy(0, 12, 0), above);
    due(what + ", below", x.thrownBy(0, 12, 1), below);
  }

  private static UmpireLost ofOdds(int odds, long... row) {
    UmpireLost x = withRow(many(3), row);
    text(x, String.valueOf(odds));
    return x;
  }

  private static void thrown() {
    holds(18, "he threw them all (he wins one of twelve then) or none, alike likely ahead: how likely he threw them: a fraction in lowest terms "
        + "(0 by 1: it can be neither).");
    fractionIs("no match", ofOdds(6), 1, 2);
    fractionIs("won by 6", ofOdds(6, 1), 1, 7);
    fractionIs("lost by 6", ofOdds(6, 0), 11, 17);
    fractionIs("won by 1", ofOdds(1, 1), 1, 2);
    fractionIs("won and lost by 1", ofOdds(1, 1, 0), 1, 2);
    fractionIs("lost by 1", ofOdds(1, 0, 0, 0, 0, 0, 0, 0, 0), 1, 2);
    fractionIs("won by 11", ofOdds(11, 1, 1), 1, 122);
    fractionIs("lost by 11", ofOdds(11, 0, 0), 121, 122);
    fractionIs("won and lost by 11", ofOdds(11, 1, 0), 1, 2);
    // He who throws can win and lose, so that it can be neither never comes up.
    fractionIs("won by 0: it cannot be fair", ofOdds(0, 1), 1, 1);
    fractionIs("lost by 12: it cannot be fair", ofOdds(12, 0), 1, 1);
    fractionIs("won by 0, eight times", ofOdds(0, 1, 1, 1, 1, 1, 1, 1, 1), 1, 1);
    fractionIs("won by 12, eight times", ofOdds(12, 1, 1, 1, 1, 1, 1, 1, 1), 1, 1 + 429981696L);
    fractionIs("lost by 0, eight times", ofOdds(0, 0, 0, 0, 0, 0, 0, 0, 0), 214358881L, 214358881L + 429981696L);
    fractionIs("lost by 8, twice", ofOdds(8, 0, 0), 121, 137);
    holds(18, "(all as now; 8 at most; it ends with what is neither)");
    UmpireLost x = withRow(many(3), 0, 0);
    fractionIs("as now", x, 121, 157);
    x.mend(2, GRUDGE, 60);
    fractionIs("as the grudge is now", x, 121, 130);
    x.mend(0, LOST, 63);
    fractionIs("as the days lost are now", x, 121, 157);
  }

  private static void thrownEnds() {
    holds(18, "THROWN: a ROW of bytes: 1 the one won, 0 he lost, of MATCHES against another one by one UMPIRE (all as now; 8 at most; it ends "
        + "with what is neither):");
    long[] above = {1, 11, 121, 1331, 14641, 161051, 1771561, 19487171, 214358881};
    long[] fair = {1, 6, 36, 216, 1296, 7776, 46656, 279936, 1679616};
    for (int n = 0; n <= 8; n++) {
      fractionIs("lost " + n + " times", ofOdds(6, new long[n]), above[n], above[n] + fair[n]);
    }
    for (int n : new int[] {9, 10, 59, 60}) {
      fractionIs("lost " + n + " times", ofOdds(6, new long[n]), above[8], above[8] + fair[8]);
    }
    fractionIs("lost eight times, then won", ofOdds(6, 0, 0, 0, 0, 0, 0, 0, 0, 1), above[8], above[8] + fair[8]);
    for (long neither : new long[] {2, -1, 127, -128, 3}) {
      fractionIs("first " + neither, ofOdds(6, neither, 0, 0), 1, 2);
      fractionIs("lost, then " + neither, ofOdds(6, 0, neither, 0), 11, 17);
      fractionIs("lost twice, then " + neither, ofOdds(6, 0, 0, neither), 121, 157);
    }
  }

  private static void thrownRefusals() {
    Stand house = Stand.house();
    holds(18, "THROWN (part 0 above, 1 below the line). Long.MIN_VALUE: BAD, no ROW of bytes.");
    for (int part : outside(0, 1)) {
      refused(house, "thrownBy(0, 12, " + part + ")", x -> x.thrownBy(0, 12, part), NONE);
    }
    for (int shelf : new int[] {-1, 6, FIRST, LAST, 1, 2, 3, 4, 5}) {
      refused(house, "thrownBy(" + shelf + ", 12, 0)", x -> x.thrownBy(shelf, 12, 0), NONE);
      refused(house, "thrownBy(" + shelf + ", 12, 1)", x -> x.thrownBy(shelf, 12, 1), NONE);
    }
    for (int abu : NO_THREES) {
      refused(house, "thrownBy(0, " + abu + ", 0)", x -> x.thrownBy(0, abu, 0), NONE);
    }
    refused(new Stand().does(x -> x.row(0, BYTES, 1)), "thrownBy without players", x -> x.thrownBy(0, 12, 0), NONE);
    holds(18, "players (abu: 100 times the one, 10 times the other one, and the UMPIRE; three unlike).");
    UmpireLost x = withRow(many(3), 0);
    due("by an umpire who did not lose", x.thrownBy(0, 12, 0), 11);
    x.mend(0, TODAY, 1);
    due("of one who played today", x.thrownBy(0, 12, 1), 17);
    OfThree below = (each, abu) -> each.thrownBy(0, abu, 1);
    ofAllThrees("thrown by the one's skill", withWin("a"), below, (a, b, u) -> 1 + a, NONE);
    ofAllThrees("thrown by the other one's skill", withWin("b"), below, (a, b, u) -> 1 + b, NONE);
    ofAllThrees("thrown by the umpire's grudge", withWin("g"), below, (a, b, u) -> 1 + u, NONE);
    onlyAnswers(18, "thrownBy(0, 12, 0)", each -> each.thrownBy(0, 12, 0));
  }

  private static Stand withWin(String law) {
    return numbered(law).does(x -> x.row(0, BYTES, 1), x -> x.put(0, 0, 1));
  }

  private static void three() {
    holds(19, "THREE: who LOST on three days together or more of the eight (bits). STREAK:");
    int[] not = {0, 1, 3, 192, 219, 131, 193, 195, 11, 107};
    int[] are = {7, 14, 28, 56, 112, 224, 15, 255, 231, 135};
    UmpireLost x = many(10), y = many(10);
    for (int i = 0; i < 10; i++) {
      x.mend(i, LOST, not[i]);
      y.mend(i, LOST, are[i]);
    }
    due("nobody", x.three(), 0);
    due("all", y.three(), 1023);
    x.mend(9, LOST, 7);
    due("the last", x.three(), 512);
    y.mend(0, LOST, 3);
    due("all but the first", y.three(), 1022);
    holds(19, "THREE (bits).");
    due("without players", new UmpireLost().three(), 0);
    UmpireLost z = many(1);
    z.mend(0, LOST, 7);
    int[] days = {1, 1, 1, 1, 1, 0};
    for (int day = 0; day < days.length; day++) {
      z.day();
      due("behind day " + day, z.three(), days[day]);
    }
    onlyAnswers(19, "three()", each -> each.three());
  }

  private static void streakIs(String what, UmpireLost x, int k, long above, long below) {
    due(what + ", above", x.streak(12, k, 0), above);
    due(what + ", below", x.streak(12, k, 1), below);
  }

  private static void streak() {
    holds(20, "STREAK: how likely one loses k (0 .. 6) MATCHES together against another one by an UMPIRE (all as now): a fraction.");
    long power = 1, twelves = 1;
    for (int k = 0; k <= 6; k++) {
      streakIs("by 6, k " + k, ofOdds(6), k, 1, 1L << k);
      streakIs("by 12, k " + k, ofOdds(12), k, k == 0 ? 1 : 0, 1);
      streakIs("by 0, k " + k, ofOdds(0), k, 1, 1);
      streakIs("by 1, k " + k, ofOdds(1), k, power, twelves);
      streakIs("by 11, k " + k, ofOdds(11), k, 1, twelves);
      power *= 11;
      twelves *= 12;
    }
    streakIs("by 2, k 6", ofOdds(2), 6, 15625, 46656);
    streakIs("by 3, k 6", ofOdds(3), 6, 729, 4096);
    UmpireLost x = many(3);
    x.mend(2, GRUDGE, 99);
    streakIs("as the grudge is now", x, 2, 1, 36);
    x.mend(0, LOST, 255);
    streakIs("as the days lost are now", x, 2, 1, 4);
  }

  private static void streakRefusals() {
    Stand house = Stand.house();
    holds(20, "STREAK. Long.MIN_VALUE: BAD.");
    for (int k : outside(0, 6)) {
      refused(house, "streak(12, " + k + ", 0)", x -> x.streak(12, k, 0), NONE);
    }
    for (int part : outside(0, 1)) {
      refused(house, "streak(12, 1, " + part + ")", x -> x.streak(12, 1, part), NONE);
    }
    for (int abu : NO_THREES) {
      refused(house, "streak(" + abu + ", 1, 0)", x -> x.streak(abu, 1, 0), NONE);
      refused(house, "streak(" + abu + ", 0, 1)", x -> x.streak(abu, 0, 1), NONE);
    }
    refused(new Stand(), "streak(12, 0, 0) without players", x -> x.streak(12, 0, 0), NONE);
    long[] below = {1, 12, 6, 4, 3, 12, 2, 12, 3, 4};
    OfThree part = (x, abu) -> x.streak(abu, 1, 1);
    ofAllThrees("streak by the one's skill", numbered("a"), part, (a, b, u) -> below[a], NONE);
    ofAllThrees("streak by the other one's skill", numbered("b"), part, (a, b, u) -> below[b], NONE);
    ofAllThrees("streak by the umpire's grudge", numbered("g"), part, (a, b, u) -> below[u], NONE);
    onlyAnswers(20, "streak(12, 6, 1)", each -> each.streak(12, 6, 1));
  }

  private static void turnsAre(String what, UmpireLost x, int n, int odds, int first) {
    due(what + ", " + n + " times", x.byTurns(12, n, 0), odds);
    due(what + ", " + n + " times, first", x.byTurns(12, n, 1), first);
  }

  private static void turnsAre(String what, UmpireLost x, int[] odds, int[] firsts) {
    for (int n = 1; n <= 5; n++) {
      turnsAre(what, x, n, odds[n - 1], firsts[n - 1]);
    }
  }

  private static void byTurns() {
    holds(21, "BY TURNS: the one and the other one of a MATCH (three unlike), n (1 .. 5) times in all, the one first:");
    UmpireLost x = many(3);
    x.mend(2, GRUDGE, 40);
    for (int n = 1; n <= 5; n++) {
      turnsAre("what the one adds the other one takes", x, n, n % 2 == 1 ? 9 : 8, 1);
    }
    x.mend(2, GRUDGE, 99);
    turnsAre("at the most grudge", x, 2, 9, 2);
    turnsAre("at the most grudge", x, 5, 10, 2);
    holds(21, ONLY_ANSWERS);
    due("of(2, 1)", x.of(2, GRUDGE), 99);
    due("count(3)", x.count(3), 2);
    OfThree twice = (each, abu) -> each.byTurns(abu, 2, 0), once = (each, abu) -> each.byTurns(abu, 1, 0);
    ofAllThrees("by turns by the one's skill", numbered("a"), twice, (a, b, u) -> a, BAD);
    ofAllThrees("by turns by the other one's skill", numbered("b"), twice, (a, b, u) -> b, BAD);
    ofAllThrees("by turns by the umpire's grudge", numbered("g-20"), once, (a, b, u) -> u, BAD);
    onlyAnswers(21, "byTurns(12, 5, 0)", y -> y.byTurns(12, 5, 0));
    onlyAnswers(21, "byTurns(12, 5, 1)", y -> y.byTurns(12, 5, 1));
  }

  private static void byTurnsWithin() {
    holds(21, "lemonade (GRUDGE of the UMPIRE 20 less, 0 at least), chalk (20 more, 99 at most), or nothing:");
    int[] grudges = {0, 1, 19, 20, 21, 50, 78, 79, 80, 98, 99};
    for (int grudge : grudges) {
      UmpireLost x = many(3);
      x.mend(2, GRUDGE, grudge);
      int less = Math.max(0, grudge - 20), more = Math.min(99, grudge + 20);
      text(x, "(g=" + less + ")*7");
      turnsAre("lemonade from " + grudge, x, 1, 7, grudge == 0 ? 2 : 0);
      text(x, "(g=" + more + ")*7");
      turnsAre("chalk from " + grudge, x, 1, 7, grudge == 99 ? 2 : 1);
      text(x, "(g=" + grudge + ")*7");
      turnsAre("nothing from " + grudge, x, 1, 7, 2);
      text(x, "((g<" + less + ")|(g>" + more + "))*7");
      turnsAre("neither below nor above from " + grudge, x, 1, 0, 2);
    }
  }

  private static void byTurnsLikeOnes() {
    holds(21, "behind them the one wants his odds most, the other one least: these, if both do their best; the one's first (0 lemonade, 1 chalk, "
        + "2 nothing; of like ones 2 first, then the least).");
    UmpireLost x = many(3);
    x.mend(2, GRUDGE, 50);
    text(x, "7");
    for (int n = 1; n <= 5; n++) {
      turnsAre("all alike", x, n, 7, 2);
    }
    text(x, "!(g=50)*7");
    turnsAre("lemonade and chalk alike", x, 1, 7, 0);
    text(x, "!(g=30)*7");
    turnsAre("nothing and chalk alike", x, 1, 7, 2);
    text(x, "!(g=70)*7");
    turnsAre("nothing and lemonade alike", x, 1, 7, 2);
    text(x, "g/10");
    turnsAre("the more the better", x, 1, 7, 1);
    turnsAre("the more the better", x, 2, 5, 1);
    turnsAre("the more the better", x, 3, 7, 1);
    text(x, "12-g/10");
    turnsAre("the less the better", x, 1, 9, 0);
    turnsAre("the less the better", x, 2, 7, 0);
    text(x, "g=70?5;g=90?12;6");
    int[] odds = {6, 6, 6, 6, 6}, firsts = {2, 0, 2, 0, 2};
    turnsAre("what the other one can do counts", x, odds, firsts);
    text(x, "g=10?9;g=30?8;g=50?5;g=70?9;0");
    turnsAre("what both can do counts", x, new int[] {9, 5, 9, 5, 9}, new int[] {1, 2, 2, 2, 2});
    text(x, "g*7%13");
    turnsAre("up and down", x, new int[] {12, 6, 12, 6, 12}, new int[] {2, 1, 2, 1, 2});
    text(x, "(g=10)*7|(g=90)");
    turnsAre("three times the same way", x, 3, 0, 2);
  }

  private static void byTurnsRefusals() {
    Stand house = Stand.house();
    holds(21, "BY TURNS: these (what 0), the one's first (1). BAD.");
    for (int n : outside(1, 5)) {
      refused(house, "byTurns(12, " + n + ", 0)", x -> x.byTurns(12, n, 0), BAD);
      refused(house, "byTurns(12, " + n + ", 1)", x -> x.byTurns(12, n, 1), BAD);
    }
    for (int what : outside(0, 1)) {
      refused(house, "byTurns(12, 1, " + what + ")", x -> x.byTurns(12, 1, what), BAD);
    }
    for (int abu : NO_THREES) {
      refused(house, "byTurns(" + abu + ", 1, 0)", x -> x.byTurns(abu, 1, 0), BAD);
      refused(house, "byTurns(" + abu + ", 5, 1)", x -> x.byTurns(abu, 5, 1), BAD);
    }
    refused(new Stand(), "byTurns(12, 1, 0) without players", x -> x.byTurns(12, 1, 0), BAD);
  }

  private static UmpireLost withCard(int... skills) {
    UmpireLost x = of(skills);
    lostYesterday(x, 2);
    return withRow(x, 0, 1, 2);
  }

  private static void drawnMatches() {
    holds(22, "z = z * 1103515245 + 12345 (an int; SEED at first) ahead of each MATCH that CAN BE HELD: the one wins, if (z >>> 8) % 12 is "
        + "below his odds;");
    for (int seed : new int[] {0, 1, -1, LAST, FIRST, VOID, 12345, 987654321}) {
      for (int odds = 0; odds <= 12; odds++) {
        UmpireLost x = withCard(5, 5, 5);
        text(x, String.valueOf(odds));
        int wins = twelfth(next(seed)) < odds ? 1 : 0;
        due("seed " + seed + " by " + odds, x.drawn(seed, 0, 101, 0), wins);
        due("seed " + seed + " by " + odds + ", the other one", x.drawn(seed, 0, 101, 1), 1 - wins);
        due("seed " + seed + " by " + odds + ", the umpire", x.drawn(seed, 0, 101, 2), 0);
      }
    }
    UmpireLost x = withCard(5, 5, 5);
    x.mend(0, SEED, 77);
    int[] due = new int[2];
    for (int seed = 0; seed < 24; seed++) {
      due[twelfth(next(seed)) < 6 ? 0 : 1]++;
      due[0] -= x.drawn(seed, 0, 101, 0);
      due[1] -= x.drawn(seed, 0, 101, 1);
    }
    due("whatever SEED is in deed", due[0], 0);
    due("of(0, 5)", x.of(0, SEED), 77);
  }

  private static void drawnSeasons() {
    holds(22, "DRAWN: n seasons (1 .. 30) of m DAYS (1 .. 20) of a CARD from now by a SEED told:");
    int z = 4, wins = 0;
    for (int n = 1; n <= 30; n++) {
      z = next(z);
      wins += twelfth(z) < 6 ? 1 : 0;
      UmpireLost x = withCard(5, 5, 5);
      due(n + " seasons", x.drawn(4, 0, 100 * n + 1, 0), wins);
      due(n + " seasons, the other one", x.drawn(4, 0, 100 * n + 20, 1), n - wins);
      due(n + " seasons, held", x.drawn(4, 0, 100 * n + 20, -1), n);
    }
    holds(22, "each DAY ends: how often a told one wins; how many MATCHES are held.");
    UmpireLost x = withCard(5, 5, 5);
    x.mend(2, TODAY, 2);
    due("the umpire lost today: the second day, too", x.drawn(4, 0, 102, -1), 2);
    due("on one day", x.drawn(4, 0, 101, -1), 1);
    due("of thirty seasons", x.drawn(4, 0, 3020, -1), 60);
    due("they win together", x.drawn(4, 0, 3020, 0) + x.drawn(4, 0, 3020, 1), 60);
    int seed = 4, ones = 0;
    for (int match = 0; match < 60; match++) {
      seed = next(seed);
      ones += twelfth(seed) < 6 ? 1 : 0;
    }
    // One day lost is not yet one of twelve less.
    due("how often the one wins by and by", x.drawn(4, 0, 3020, 0), ones);
    text(x, "(d=99)*12");
    x.mend(0, DAY, 98);
    due("on day 98 he loses, on day 99 he wins", x.drawn(4, 0, 3002, 0), 30);
    x.mend(0, DAY, 99);
    due("day 99 stays", x.drawn(4, 0, 3002, 0), 60);
    due("nothing was held in deed", x.of(0, DAY), 99);
    due("led(0)", x.led(0), 0);
  }

  private static void drawnCard() {
    holds(22, "A CARD: a ROW of bytes on a SHELF: by threes the one, the other one, the UMPIRE: MATCHES one behind the other on a DAY (8 threes "
        + "at most; it ends with what is no MATCH that CAN BE HELD then).");
    UmpireLost x = CardSentences.losers(9);
    long[] card = {0, 1, 2, 3, 4, 5, 6, 7, 8};
    for (int length = 0; length <= 9; length++) {
      due(length + " bytes", withRow(x, Arrays.copyOf(card, length)).drawn(1, 0, 101, -1), length / 3);
    }
    int z = next(1), y = next(z), w = next(y);
    withRow(x, card);
    due("the first draw", x.drawn(1, 0, 101, 0), twelfth(z) < 6 ? 1 : 0);
    due("the second draw", x.drawn(1, 0, 101, 3), twelfth(y) < 6 ? 1 : 0);
    due("the third draw", x.drawn(1, 0, 101, 6), twelfth(w) < 6 ? 1 : 0);
    due("a second that is none", withRow(x, 0, 1, 2, 3, 3, 5, 6, 7, 8).drawn(1, 0, 101, -1), 1);
    due("a first that is none", withRow(x, 0, 1, 9, 3, 4, 5).drawn(1, 0, 3020, -1), 0);
    x.mend(3, TODAY, 1);
    due("who played today", withRow(x, card).drawn(1, 0, 101, -1), 1);
    due("without players", withRow(new UmpireLost(), 0, 1, 2).drawn(1, 0, 3020, -1), 0);
  }

  private static void drawnNumbers() {
    Stand house = Stand.house();
    holds(22, "DRAWN (nm: 100 n and m): how often one wins, how many are held (one -1). BAD, -11, -12.");
    int[] wrong = {0, 1, 20, 99, 100, 121, 199, 200, 221, 3000, 3021, 3100, 3101, 3120, -1, -100, -101, -3020, FIRST, LAST};
    for (int nm : wrong) {
      refused(house, "drawn(1, 0, " + nm + ", -1)", x -> x.drawn(1, 0, nm, -1), BAD);
    }
    for (int nm : new int[] {101, 120, 3001, 3020}) {
      due("drawn(1, 0, " + nm + ", -1)", house.again().drawn(1, 0, nm, -1) >= 0 ? 1 : 0, 1);
    }
    for (int one : new int[] {-2, 6, 10, FIRST, LAST}) {
      refused(house, "drawn(1, 0, 101, " + one + ")", x -> x.drawn(1, 0, 101, one), BAD);
    }
    refused(new Stand().does(x -> x.row(0, BYTES, 3)), "drawn for 0 without players", x -> x.drawn(1, 0, 101, 0), BAD);
    CardSentences.onlyBytes((x, shelf) -> x.drawn(1, shelf, 101, -1));
    CardSentences.onlyBytes((x, shelf) -> x.drawn(1, shelf, 3020, 0));
  }

  private static void drawnRefusals() {
    Stand house = Stand.house();
    holds(22, FIRST_NAMED);
    for (int shelf = 1; shelf < 6; shelf++) {
      int each = shelf;
      refused(house, "a bad nm of shelf " + shelf, x -> x.drawn(1, each, 100, -1), BAD);
      refused(house, "a bad one of shelf " + shelf, x -> x.drawn(1, each, 101, 6), BAD);
    }
    onlyAnswers(22, "drawn(1, 0, 3020, -1)", x -> x.drawn(1, 0, 3020, -1));
  }
}
