/** Promises 23 to 30: matches, lemonade and days in deed, what is led, the image, changes undone and done again. */
final class DeedSentences extends Sentences {
  private static final String IN_DEED = "IN DEED: a MATCH is played (SEED goes on as z does; the one wins likewise); lemonade is brought to one "
      + "(GRUDGE 20 less); a DAY ends.";
  private static final String LED = "LED: matches, won by the one, lemonade, days, losers (each who lost, as a DAY ends).";
  private static final String CHANGES = "CHANGES (all numbers of mend(); telling the same number is none) can be UNDONE, the latest first, and "
      + "DONE AGAIN (as long as no other came behind); 40 at most are kept; deeds are none (GRUDGE, LOST, TODAY, DAY, SEED by them, too).";
  private static final String IMAGE = "AN IMAGE keeps GRUDGE, LOST, TODAY of PLAYERS, DAY, SEED, what LED tells.";
  private static final int[] NO_THREES = {-1, 1000, FIRST, LAST, 0, 11, 101, 110, 122, 333, 6, 60, 600, 16, 61, 106, -12, 1012};

  static void hold() {
    matchByDraws();
    matchToday();
    matchState();
    matchRefusals();
    lemonade();
    lemonadeRefusals();
    dayOfEach();
    dayOfAll();
    led();
    ledRefusals();
    image();
    back();
    backWithPlayers();
    backRefusals();
    undoEach();
    undoForty();
    undoFortyOfSeveral();
    undoDeeds();
    undoRefusals();
    redoEach();
    redoAsLong();
    redoForty();
    redoRefusals();
  }

  private static UmpireLost three() {
    UmpireLost x = many(3);
    lostYesterday(x, 2);
    return x;
  }

  private static void matchByDraws() {
    holds(23, IN_DEED);
    for (int seed : new int[] {0, 1, -1, LAST, FIRST, VOID, 12345, 987654321}) {
      for (int odds = 0; odds <= 12; odds++) {
        UmpireLost x = three();
        x.mend(0, SEED, seed);
        text(x, String.valueOf(odds));
        due("seed " + seed + " by " + odds, x.match(12), twelfth(next(seed)) < odds ? 1 : 0);
        due("SEED behind " + seed, x.of(0, SEED), next(seed));
      }
    }
    UmpireLost y = three();
    int z = 1;
    for (int i = 0; i < 20; i++) {
      z = next(z);
      due("match " + i, y.match(12), twelfth(z) < 6 ? 1 : 0);
      for (int one = 0; one < 3; one++) {
        y.mend(one, TODAY, 0);
      }
    }
    due("SEED", y.of(0, SEED), z);
  }

  private static void matchToday() {
    holds(23, "A MATCH is played: 1: the one won, 0.");
    UmpireLost x = three();
    text(x, "12");
    due("he always wins", x.match(12), 1);
    int[] today = {1, 3, 1};
    for (int one = 0; one < 3; one++) {
      due("TODAY of " + one, x.of(one, TODAY), today[one]);
    }
    UmpireLost y = three();
    text(y, "0");
    for (int one = 0; one < 3; one++) {
      y.mend(one, TODAY, 2);
    }
    due("he never wins, whoever had lost", y.match(12), 0);
    for (int one = 0; one < 3; one++) {
      due("TODAY of " + one + ", who had lost", y.of(one, TODAY), 3);
    }
    // The ones are 1, 3 and 1 today, and nobody else is anything.
    ofAllThrees("who played", new Stand(), (none, abu) -> todayBehind(abu), (a, b, u) -> (1L << 2 * a) + (3L << 2 * b) + (1L << 2 * u), BAD);
    UmpireLost ten = CardSentences.losers(10);
    due("of 9, 8, 7", ten.match(987) >= 0 ? 1 : 0, 1);
    due("of 0, 1, 2", ten.match(12) >= 0 ? 1 : 0, 1);
    due("of 3, 4, 5", ten.match(345) >= 0 ? 1 : 0, 1);
    due("of 6, who alone is left", ten.match(601), STATE);
  }

  private static long todayBehind(int abu) {
    UmpireLost x = CardSentences.losers(10);
    text(x, "12");
    int answer = x.match(abu);
    long today = 0;
    for (int one = 0; one < 10; one++) {
      today += (long) x.of(one, TODAY) << 2 * one;
    }
    return answer == 1 ? today : answer;
  }

  private static void matchState() {
    holds(23, "It CAN BE HELD, if besides none of the three played or judged TODAY.");
    for (int one = 0; one < 3; one++) {
      for (int today : new int[] {1, 3}) {
        int each = one;
        Stand played = new Stand().does(x -> x.player(5), x -> x.player(5), x -> x.player(5), x -> x.mend(2, LOST, 1),
            x -> x.mend(each, TODAY, today));
        refused(played, "match(12), TODAY of " + one + " is " + today, x -> x.match(12), STATE);
      }
    }
    Stand lost = new Stand().does(x -> x.player(5), x -> x.player(5), x -> x.player(5), x -> x.mend(2, LOST, 1), x -> x.match(12));
    refused(lost, "match(12) again", x -> x.match(12), STATE);
    holds(23, "A MATCH: the one, the other one, the UMPIRE: three unlike PLAYERS; the UMPIRE LOST yesterday.");
    for (int days : new int[] {0, 2, 254}) {
      Stand before = new Stand().does(x -> x.player(5), x -> x.player(5), x -> x.player(5), x -> x.mend(0, LOST, 255),
          x -> x.mend(1, LOST, 255), x -> x.mend(2, LOST, days));
      refused(before, "match(12), LOST of 2 is " + days, x -> x.match(12), STATE);
      due("match(120)", before.again().match(120) >= 0 ? 1 : 0, 1);
    }
    for (int days : new int[] {1, 255}) {
      UmpireLost x = three();
      x.mend(2, LOST, days);
      due("match(12), LOST of 2 is " + days, x.match(12) >= 0 ? 1 : 0, 1);
    }
  }

  private static void matchRefusals() {
    Stand house = Stand.house();
    holds(23, "BAD; STATE: it cannot be held.");
    for (int abu : NO_THREES) {
      refused(house, "match(" + abu + ")", x -> x.match(abu), BAD);
    }
    refused(house, "match(120), whose umpire did not lose", x -> x.match(120), STATE);
    refused(new Stand(), "match(12) without players", x -> x.match(12), BAD);
    holds(23, FIRST_NAMED);
    Stand nobody = new Stand().does(x -> x.player(5), x -> x.player(5), x -> x.player(5));
    refused(nobody, "match(11), which nobody may judge", x -> x.match(11), BAD);
    refused(nobody, "match(12), which nobody may judge", x -> x.match(12), STATE);
  }

  private static void lemonade() {
    holds(24, "lemonade is brought to one (GRUDGE 20 less)");
    int[] grudges = {0, 1, 19, 20, 21, 39, 40, 98, 99}, then = {0, 0, 0, 0, 1, 19, 20, 78, 79};
    for (int i = 0; i < grudges.length; i++) {
      UmpireLost x = many(10);
      x.mend(9, GRUDGE, grudges[i]);
      x.mend(8, GRUDGE, 50);
      due("lemonade(9) at " + grudges[i], x.lemonade(9), then[i]);
      due("of(9, 1)", x.of(9, GRUDGE), then[i]);
      due("of(8, 1)", x.of(8, GRUDGE), 50);
      due("led(2)", x.led(2), 1);
    }
    holds(24, "GRUDGE (0 .. 99; 0 at first)");
    UmpireLost x = many(1);
    for (int i = 1; i <= 3; i++) {
      due("lemonade(0) at 0", x.lemonade(0), 0);
      due("led(2)", x.led(2), i);
    }
  }

  private static void lemonadeRefusals() {
    holds(24, "Lemonade is brought to one: GRUDGE then. BAD.");
    for (int one : outside(0, 5)) {
      refused(Stand.house(), "lemonade(" + one + ")", x -> x.lemonade(one), BAD);
    }
    refused(new Stand(), "lemonade(0) without players", x -> x.lemonade(0), BAD);
    Stand ten = new Stand();
    for (int i = 0; i < 10; i++) {
      ten.does(x -> x.player(5));
    }
    refused(ten, "lemonade(10) of ten", x -> x.lemonade(10), BAD);
    due("lemonade(9) of ten", ten.again().lemonade(9), 0);
  }

  private static void dayOfEach() {
    holds(25, "A DAY ends: LOST of each becomes twice that, and 1, if TODAY says he lost (the latest eight are kept); GRUDGE of who lost is 3 "
        + "more (99 at most), of who did not 1 less (0 at least); TODAY is 0; DAY is one more (99 stays).");
    int[] lost = {0, 1, 127, 128, 255}, then = {0, 2, 254, 0, 254};
    for (int today = 0; today < 4; today++) {
      UmpireLost x = many(5);
      for (int one = 0; one < 5; one++) {
        x.mend(one, LOST, lost[one]);
        x.mend(one, TODAY, today);
      }
      due("day(), TODAY " + today, x.day(), today < 2 ? 0 : 31);
      for (int one = 0; one < 5; one++) {
        due("LOST of " + lost[one] + ", TODAY " + today, x.of(one, LOST), today < 2 ? then[one] : then[one] + 1);
        due("TODAY was " + today, x.of(one, TODAY), 0);
      }
    }
    int[] grudges = {0, 1, 95, 96, 97, 98, 99}, more = {3, 4, 98, 99, 99, 99, 99}, less = {0, 0, 94, 95, 96, 97, 98};
    for (int today = 0; today < 4; today++) {
      UmpireLost x = many(7);
      for (int one = 0; one < 7; one++) {
        x.mend(one, GRUDGE, grudges[one]);
        x.mend(one, TODAY, today);
      }
      x.day();
      for (int one = 0; one < 7; one++) {
        due("GRUDGE of " + grudges[one] + ", TODAY " + today, x.of(one, GRUDGE), today < 2 ? less[one] : more[one]);
      }
    }
    UmpireLost z = many(1);
    int[] days = {0, 1, 97, 98, 99}, next = {1, 2, 98, 99, 99};
    for (int i = 0; i < days.length; i++) {
      z.mend(0, DAY, days[i]);
      z.day();
      due("DAY behind " + days[i], z.of(0, DAY), next[i]);
    }
    z.mend(0, LOST, 1);
    for (int i = 1; i <= 8; i++) {
      z.day();
      due("LOST yesterday, " + i + " days ago", z.of(0, LOST), i == 8 ? 0 : 1 << i);
    }
  }

  private static void dayOfAll() {
    holds(25, "A DAY ends: who may judge now (bits).");
    due("without players", new UmpireLost().day(), 0);
    UmpireLost x = many(10);
    due("nobody lost", x.day(), 0);
    for (int one = 0; one < 10; one++) {
      x.mend(one, TODAY, 2);
    }
    due("all lost", x.day(), 1023);
    due("nobody lost any more", x.day(), 0);
    x.mend(9, TODAY, 3);
    due("9 lost", x.day(), 512);
    due("judges()", x.judges(), 512);
    due("SEED stays", x.of(0, SEED), 1);
    due("SKILL stays", x.of(9, SKILL), 5);
  }

  private static void ledAre(String what, UmpireLost x, int... led) {
    for (int i = 0; i < led.length; i++) {
      due(what + ": led(" + i + ")", x.led(i), led[i]);
    }
  }

  private static void led() {
    holds(26, LED);
    UmpireLost x = three();
    ledAre("new", x, 0, 0, 0, 0, 0);
    text(x, "12");
    x.match(12);
    ledAre("the one won", x, 1, 1, 0, 0, 0);
    x.match(12);
    ledAre("a match that cannot be held", x, 1, 1, 0, 0, 0);
    x.lemonade(0);
    x.lemonade(3);
    ledAre("lemonade for 0, but none for 3", x, 1, 1, 1, 0, 0);
    x.day();
    ledAre("a day ended", x, 1, 1, 1, 1, 1);
    x.day();
    ledAre("a day on which nobody lost", x, 1, 1, 1, 2, 1);
    x.mend(0, TODAY, 2);
    x.mend(1, TODAY, 3);
    x.mend(2, TODAY, 1);
    ledAre("before the day ends", x, 1, 1, 1, 2, 1);
    x.day();
    ledAre("two of three lost", x, 1, 1, 1, 3, 3);
    text(x, "0");
    x.mend(2, LOST, 1);
    x.match(12);
    ledAre("the one lost", x, 2, 1, 1, 3, 3);
    UmpireLost nobody = new UmpireLost();
    nobody.day();
    ledAre("a day without players", nobody, 0, 0, 0, 1, 0);
    UmpireLost ten = many(10);
    for (int one = 0; one < 10; one++) {
      ten.mend(one, TODAY, 2);
    }
    ten.mend(0, DAY, 99);
    ten.day();
    ledAre("all ten lost on day 99", ten, 0, 0, 0, 1, 10);
  }

  private static void ledRefusals() {
    holds(26, "LED: matches (what 0), won by the one (1), lemonade (2), days (3), losers (4). BAD.");
    for (int what : outside(0, 4)) {
      refused(Stand.house(), "led(" + what + ")", x -> x.led(what), BAD);
      refused(new Stand(), "led(" + what + ")", x -> x.led(what), BAD);
    }
    UmpireLost x = CardSentences.losers(9);
    text(x, "12");
    x.match(12);
    x.match(345);
    x.match(678);
    ledAre("three matches", x, 3, 3, 0, 0, 0);
    x.day();
    ledAre("their day", x, 3, 3, 0, 1, 3);
    onlyAnswers(26, "led(4)", y -> y.led(4));
  }

  private static void image() {
    holds(27, "AN IMAGE is kept: matches.");
    due("without players", new UmpireLost().image(), 0);
    UmpireLost x = three();
    due("ahead of any match", x.image(), 0);
    x.match(12);
    due("behind a match", x.image(), 1);
    due("again", x.image(), 1);
    holds(27, IMAGE);
    x.day();
    x.image();
    x.day();
    x.back();
    due("the latest image is kept", x.of(0, DAY), 1);
    due("count(3): an image is no change", x.count(3), 1);
    Stand house = Stand.house();
    holds(27, ONLY_ANSWERS);
    UmpireLost y = house.again();
    y.image();
    y.back();
    for (int what = 0; what < 5; what++) {
      due("of(2, " + what + ") behind image() and back()", y.of(what < DAY ? 2 : 0, what), house.again().of(what < DAY ? 2 : 0, what));
    }
    due("count(2)", y.count(2), 3);
    due("undo()", y.undo(), house.again().undo());
  }

  private static void back() {
    holds(28, IMAGE);
    UmpireLost x = three();
    x.mend(0, GRUDGE, 30);
    x.mend(1, LOST, 66);
    x.mend(0, DAY, 98);
    x.mend(0, SEED, 99);
    x.mend(1, TODAY, 2);
    x.lemonade(2);
    x.image();
    text(x, "12");
    x.match(12);
    x.lemonade(0);
    x.day();
    x.day();
    x.mend(0, SKILL, 9);
    due("back()", x.back(), 0);
    int[] due = {9, 30, 0, 0, 5, 0, 66, 2, 5, 0, 1, 0};
    for (int i = 0; i < due.length; i++) {
      due("of(" + i / 4 + ", " + i % 4 + ")", x.of(i / 4, i % 4), due[i]);
    }
    due("DAY", x.of(0, DAY), 98);
    due("SEED", x.of(0, SEED), 99);
    ledAre("laid back", x, 0, 0, 1, 0, 0);
    due("the law stays", x.odds(12), 12);
    due("changes stay", x.count(3), 7);
    x.match(12);
    due("back() a second time", x.back(), 0);
    due("TODAY", x.of(0, TODAY), 0);
    holds(28, "It is laid back (PLAYERS that came since as they are): matches.");
    x.match(12);
    due("image()", x.image(), 1);
    x.day();
    due("back()", x.back(), 1);
    due("DAY", x.of(0, DAY), 98);
  }

  private static void backWithPlayers() {
    holds(28, "(PLAYERS that came since as they are)");
    UmpireLost x = new UmpireLost();
    x.image();
    x.player(7);
    x.mend(0, GRUDGE, 40);
    x.mend(0, LOST, 255);
    x.mend(0, TODAY, 3);
    due("back() to where nobody was", x.back(), 0);
    int[] due = {7, 40, 255, 3};
    for (int what = SKILL; what <= TODAY; what++) {
      due("of(0, " + what + ")", x.of(0, what), due[what]);
    }
    due("count(0)", x.count(0), 1);
    x.image();
    for (int i = 1; i < 10; i++) {
      x.player(i);
      x.mend(i, GRUDGE, 10 * i);
    }
    x.mend(0, GRUDGE, 1);
    x.day();
    x.back();
    due("GRUDGE of 0, whom it knows", x.of(0, GRUDGE), 40);
    for (int i = 1; i < 10; i++) {
      due("GRUDGE of " + i + ", who came since", x.of(i, GRUDGE), 10 * i - 1);
    }
    due("count(0)", x.count(0), 10);
  }

  private static void backRefusals() {
    holds(28, "STATE: there is none.");
    refused(new Stand(), "back() of a new one", x -> x.back(), STATE);
    Stand none = Stand.text(new Stand().does(x -> x.player(5), x -> x.mend(0, LOST, 7), x -> x.mend(0, GRUDGE, 9), x -> x.undo(),
        x -> x.lemonade(0), x -> x.day()), "9");
    refused(none, "back() without an image", x -> x.back(), STATE);
    due("back() with one", none.does(x -> x.image()).again().back(), 0);
  }

  private static void undoEach() {
    holds(29, CHANGES);
    UmpireLost x = many(10);
    int[][] changes = {{9, SKILL, 0}, {9, GRUDGE, 99}, {9, LOST, 255}, {9, TODAY, 3}, {0, DAY, 99}, {0, SEED, FIRST}, {0, SKILL, 9}};
    int[] was = {5, 0, 0, 0, 0, 1, 5};
    for (int[] change : changes) {
      x.mend(change[0], change[1], change[2]);
      x.mend(change[0], change[1], change[2]);
    }
    due("telling the same number is none", x.count(3), 7);
    for (int i = 6; i >= 0; i--) {
      for (int j = 0; j <= i; j++) {
        due("still", x.of(changes[j][0], changes[j][1]), changes[j][2]);
      }
      due("undo()", x.undo(), i);
      due("of(" + changes[i][0] + ", " + changes[i][1] + ")", x.of(changes[i][0], changes[i][1]), was[i]);
    }
    holds(29, "UNDONE: how many may still be. STATE: none.");
    due("undo() of none", x.undo(), STATE);
    x.mend(0, GRUDGE, 1);
    x.mend(0, GRUDGE, 2);
    x.mend(0, GRUDGE, 1);
    due("there and back are changes", x.count(3), 3);
    due("undo()", x.undo(), 2);
    due("of(0, 1)", x.of(0, GRUDGE), 2);
    due("undo()", x.undo(), 1);
    due("of(0, 1)", x.of(0, GRUDGE), 1);
    due("undo()", x.undo(), 0);
    due("of(0, 1)", x.of(0, GRUDGE), 0);
    x.mend(0, GRUDGE, 100);
    due("what is refused is no change", x.undo(), STATE);
    UmpireLost y = new UmpireLost();
    y.mend(0, SEED, 7);
    due("undo() without players", y.undo(), 0);
    due("SEED", y.of(0, SEED), 1);
  }

  private static UmpireLost withChanges(int n) {
    UmpireLost x = many(1);
    for (int grudge = 1; grudge <= n; grudge++) {
      x.mend(0, GRUDGE, grudge);
    }
    return x;
  }

  private static void undoForty() {
    holds(29, "40 at most are kept;");
    for (int n : new int[] {39, 40, 41, 42, 80, 81, 99}) {
      UmpireLost x = withChanges(n);
      int kept = Math.min(n, 40);
      due("count(3) of " + n, x.count(3), kept);
      for (int left = kept - 1; left >= 0; left--) {
        due("undo() of " + n, x.undo(), left);
        due("GRUDGE", x.of(0, GRUDGE), n - kept + left);
      }
      due("undo() of none", x.undo(), STATE);
      due("GRUDGE", x.of(0, GRUDGE), n - kept);
    }
    UmpireLost y = withChanges(40);
    y.undo();
    y.mend(0, GRUDGE, 77);
    due("one undone made room", y.count(3), 40);
    for (int left = 39; left >= 0; left--) {
      due("undo()", y.undo(), left);
    }
    due("to the first", y.of(0, GRUDGE), 0);
  }

  private static void undoFortyOfSeveral() {
    holds(29, "the latest first, and DONE AGAIN (as long as no other came behind); 40 at most are kept;");
    UmpireLost z = many(10);
    for (int i = 0; i < 45; i++) {
      z.mend(i % 10, i % 3, 1 + i);
    }
    due("changes of several numbers", z.count(3), 33);
    z.mend(0, DAY, 50);
    for (int i = 1; i <= 9; i++) {
      z.mend(i, TODAY, 1 + i % 3);
    }
    due("forty-three changes of several numbers", z.count(3), 40);
    for (int left = 39; left >= 0; left--) {
      due("undo()", z.undo(), left);
    }
    // The first three were SKILL of 0, GRUDGE of 1 and LOST of 2: 1, 2 and 3.
    int[] kept = {1, 0, 0, 5, 2, 0, 5, 0, 3, 5, 0, 0};
    for (int i = 0; i < kept.length; i++) {
      due("of(" + i / 3 + ", " + i % 3 + ")", z.of(i / 3, i % 3), kept[i]);
    }
    due("DAY", z.of(0, DAY), 0);
  }

  private static void undoDeeds() {
    holds(29, "deeds are none (GRUDGE, LOST, TODAY, DAY, SEED by them, too).");
    UmpireLost x = many(3);
    x.player(5);
    due("undo() behind player()", x.undo(), STATE);
    row(x, 0, SHORTS, 1, 2, 3);
    x.players(0, 0, 1);
    due("undo() behind players()", x.undo(), STATE);
    x.lemonade(0);
    x.day();
    x.image();
    x.back();
    text(x, "7");
    due("undo() behind other deeds", x.undo(), STATE);
    x.mend(2, LOST, 1);
    x.match(12);
    due("count(3) behind a match", x.count(3), 1);
    due("undo() behind a match", x.undo(), 0);
    due("LOST is what it was ahead of the change", x.of(2, LOST), 0);
    due("TODAY by the match stays", x.of(2, TODAY), 1);
    x.mend(0, GRUDGE, 60);
    x.lemonade(0);
    due("undo() behind lemonade", x.undo(), 0);
    due("GRUDGE is what it was ahead of the change", x.of(0, GRUDGE), 0);
    UmpireLost y = withChanges(40);
    y.day();
    y.lemonade(0);
    due("no deed takes the place of a change", y.count(3), 40);
  }

  private static void undoRefusals() {
    holds(29, "STATE: none.");
    refused(new Stand(), "undo() of a new one", x -> x.undo(), STATE);
    Stand undone = new Stand().does(x -> x.player(5), x -> x.mend(0, GRUDGE, 9), x -> x.mend(0, LOST, 9), x -> x.undo(), x -> x.undo());
    refused(undone, "undo() of none", x -> x.undo(), STATE);
    due("redo() is still there", undone.again().redo(), 1);
  }

  private static void redoEach() {
    holds(30, CHANGES);
    UmpireLost x = many(10);
    int[][] changes = {{9, SKILL, 0}, {9, GRUDGE, 99}, {9, LOST, 255}, {9, TODAY, 3}, {0, DAY, 99}, {0, SEED, FIRST}, {0, SKILL, 9}};
    for (int[] change : changes) {
      x.mend(change[0], change[1], change[2]);
    }
    for (int[] change : changes) {
      x.undo();
    }
    holds(30, "DONE AGAIN: how many may still be. STATE: none.");
    for (int i = 0; i < changes.length; i++) {
      due("redo()", x.redo(), 6 - i);
      due("of(" + changes[i][0] + ", " + changes[i][1] + ")", x.of(changes[i][0], changes[i][1]), changes[i][2]);
      due("count(3)", x.count(3), i + 1);
    }
    due("redo() of none", x.redo(), STATE);
    due("undo()", x.undo(), 6);
    due("redo()", x.redo(), 0);
  }

  private static void redoAsLong() {
    holds(30, "DONE AGAIN (as long as no other came behind)");
    UmpireLost x = withChanges(3);
    x.undo();
    x.undo();
    x.mend(0, GRUDGE, 1);
    due("redo() behind the same number", x.redo(), 1);
    x.mend(0, GRUDGE, 100);
    due("redo() behind what was refused", x.redo(), 0);
    x.undo();
    x.undo();
    x.mend(0, LOST, 5);
    due("redo() behind another change", x.redo(), STATE);
    due("count(3)", x.count(3), 2);
    due("undo()", x.undo(), 1);
    due("redo() of the other change", x.redo(), 0);
    due("LOST", x.of(0, LOST), 5);
    holds(30, "deeds are none (GRUDGE, LOST, TODAY, DAY, SEED by them, too).");
    UmpireLost y = withChanges(50);
    y.undo();
    y.undo();
    y.lemonade(0);
    y.day();
    y.player(5);
    y.image();
    y.back();
    text(y, "7");
    due("redo() behind deeds", y.redo(), 1);
    due("what it became by the change", y.of(0, GRUDGE), 49);
    due("redo() behind deeds", y.redo(), 0);
    due("what it became by the change", y.of(0, GRUDGE), 50);
  }

  private static void redoForty() {
    holds(30, "40 at most are kept;");
    for (int n : new int[] {39, 40, 41, 99}) {
      UmpireLost x = withChanges(n);
      int kept = Math.min(n, 40);
      for (int i = 0; i < kept; i++) {
        x.undo();
      }
      due("count(3)", x.count(3), 0);
      for (int left = kept - 1; left >= 0; left--) {
        due("redo() of " + n, x.redo(), left);
        due("GRUDGE", x.of(0, GRUDGE), n - left);
      }
      due("redo() of none", x.redo(), STATE);
      due("count(3)", x.count(3), kept);
    }
    UmpireLost y = withChanges(40);
    y.undo();
    y.redo();
    y.mend(0, GRUDGE, 41);
    due("count(3) of forty-one", y.count(3), 40);
    due("undo()", y.undo(), 39);
    due("redo()", y.redo(), 0);
    due("GRUDGE", y.of(0, GRUDGE), 41);
  }

  private static void redoRefusals() {
    holds(30, "STATE: none.");
    refused(new Stand(), "redo() of a new one", x -> x.redo(), STATE);
    Stand done = new Stand().does(x -> x.player(5), x -> x.mend(0, GRUDGE, 9), x -> x.mend(0, LOST, 9));
    refused(done, "redo() where none was undone", x -> x.redo(), STATE);
    refused(done.does(x -> x.undo(), x -> x.redo()), "redo() where all was done again", x -> x.redo(), STATE);
    refused(done.does(x -> x.undo(), x -> x.mend(0, LOST, 4)), "redo() behind another one", x -> x.redo(), STATE);
    due("undo() is still there", done.again().undo(), 1);
  }
}
