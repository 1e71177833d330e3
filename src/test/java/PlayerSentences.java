/** Promises 1 to 10: players, the law, odds and judges. */
final class PlayerSentences extends Sentences {
  private static final int[] NO_THREES = {-1, 1000, FIRST, LAST, 0, 11, 101, 110, 111, 122, 555, 6, 60, 600, 16, 61, 106, 129, 999};
  private static final int[] MOST = {9, 99, 255, 3, 99}, AT_FIRST = {4, 0, 0, 0, 0, 1};

  static void hold() {
    newObject();
    playerNumbers();
    playerRefusals();
    playersCome();
    playersEnd();
    playersOneNotSo();
    playersRefusals();
    mendWithin();
    mendRefusals();
    ofWithin();
    feed();
    feedFull();
    lawTape();
    lawLines();
    lawJoins();
    lawOperands();
    lawNames();
    lawOpen();
    lawNumbers();
    lawFaults();
    lawGives();
    oddsWithoutText();
    oddsOfThree();
    judges();
    bestJudge();
    bestJudgeRefusals();
  }

  private static void newObject() {
    UmpireLost x = new UmpireLost();
    holds(1, "Empty fields.");
    for (int what = 0; what < 6; what++) {
      due("count(" + what + ")", x.count(what), 0);
    }
    for (int what = 0; what < 5; what++) {
      due("led(" + what + ")", x.led(what), 0);
      due("of(0, " + what + ")", x.of(0, what), what < 4 ? VOID : 0);
    }
    due("judges()", x.judges(), 0);
    due("three()", x.three(), 0);
    due("atOnce(-1)", x.atOnce(-1), 0);
    due("trace(0)", x.trace(0), BAD);
    due("undo()", x.undo(), STATE);
    due("redo()", x.redo(), STATE);
    due("back()", x.back(), STATE);
    due("law()", x.law(), -100);
    holds(1, "DAY (0 .. 99; 0 at first), SEED (any number; 1 at first).");
    due("of(0, 4)", x.of(0, DAY), 0);
    due("of(0, 5)", x.of(0, SEED), 1);
    holds(1, "SHELVES 0 .. 5 each hold nothing (at first)");
    for (int shelf = 0; shelf < 6; shelf++) {
      due("taken", x.taken(shelf, 0), NOTHING_THERE);
      due("put", x.put(shelf, 0, 1), NOTHING_THERE);
      due("element", x.element(shelf, 0), NONE);
    }
    for (int shelf : outside(0, 5)) {
      due("taken(" + shelf + ", 0)", x.taken(shelf, 0), BAD);
    }
    holds(1, "All memory is the class's own.");
    UmpireLost full = Stand.house().again();
    due("count(0) of another one", x.count(0), 0);
    due("taken of another one", x.taken(0, 0), NOTHING_THERE);
    due("count(0) of the full one", full.count(0), 6);
    due("odds of a third one", many(3).odds(12), 6);
    holds(1, "An object is used for at most 512 calls after it has been made; what later calls answer is free.");
    UmpireLost old = new UmpireLost();
    for (int call = 1; call <= 511; call++) {
      old.day();
    }
    due("led(3) as the 512th call", old.led(3), 511);
  }

  private static void playerNumbers() {
    holds(2, "PLAYERS 0 .. 9, as they come");
    UmpireLost x = new UmpireLost();
    for (int i = 0; i < 10; i++) {
      due("player(" + (9 - i) + ")", x.player(9 - i), i);
    }
    holds(2, "A PLAYER of a SKILL: the number.");
    for (int i = 0; i < 10; i++) {
      due("of(" + i + ", 0)", x.of(i, SKILL), 9 - i);
    }
    // That SKILL is 5 at first is never seen: each one comes with his own.
    holds(2, "SKILL (0 .. 9; 5 at first), GRUDGE (0 .. 99; 0 at first), LOST (bits 0 .. 255: bit 0 yesterday, bit 1 the day before ..; "
        + "0 at first), TODAY (bits 0 .. 3: bit 0 played or judged, bit 1 lost; 0 at first).");
    for (int what = GRUDGE; what <= TODAY; what++) {
      due("of(9, " + what + ")", x.of(9, what), 0);
    }
    for (int skill : new int[] {0, 9}) {
      UmpireLost y = new UmpireLost();
      due("player(" + skill + ")", y.player(skill), 0);
      due("of(0, 0)", y.of(0, SKILL), skill);
    }
  }

  private static void playerRefusals() {
    Stand house = Stand.house();
    holds(2, "BAD, FULL: 10.");
    for (int skill : outside(0, 9)) {
      refused(house, "player(" + skill + ")", x -> x.player(skill), BAD);
    }
    Stand ten = new Stand();
    for (int i = 0; i < 10; i++) {
      ten.does(x -> x.player(5));
    }
    due("count(0)", ten.again().count(0), 10);
    refused(ten, "player(5) of ten", x -> x.player(5), FULL);
    refused(ten, "player(0) of ten", x -> x.player(0), FULL);
    holds(2, FIRST_NAMED);
    refused(ten, "player(10) of ten", x -> x.player(10), BAD);
    refused(ten, "player(-1) of ten", x -> x.player(-1), BAD);
  }

  private static UmpireLost withRow(long... shorts) {
    UmpireLost x = new UmpireLost();
    row(x, 0, SHORTS, shorts);
    return x;
  }

  private static void playersCome() {
    holds(3, "PLAYERS FROM A ROW on a SHELF, from place i on, n (1 .. 10) of them: how many came.");
    UmpireLost x = withRow(9, 99, 255, 0, 0, 0, 4, 5, 6);
    due("players(0, 0, 2)", x.players(0, 0, 2), 2);
    due("players(0, 6, 1)", x.players(0, 6, 1), 1);
    due("count(0)", x.count(0), 3);
    holds(3, "by threes SKILL, GRUDGE, LOST: n of them;");
    int[] due = {9, 99, 255, 0, 0, 0, 0, 0, 4, 5, 6, 0};
    for (int i = 0; i < due.length; i++) {
      due("of(" + i / 4 + ", " + i % 4 + ")", x.of(i / 4, i % 4), due[i]);
    }
    holds(3, "PLAYERS FROM A ROW of shorts, from a place on:");
    UmpireLost y = withRow(1, 2, 3, 4, 5, 6, 7);
    due("players(0, 1, 1)", y.players(0, 1, 1), 1);
    due("of(0, 0)", y.of(0, SKILL), 2);
    UmpireLost z = new UmpireLost();
    z.row(5, SHORTS, 60);
    due("players(5, 57, 1): the last three of sixty", z.players(5, 57, 1), 1);
    due("players(5, 33, 9): the last nine", z.players(5, 33, 9), 9);
    due("count(0)", z.count(0), 10);
  }

  private static void playersEnd() {
    holds(3, "it ends where the row is missing, ends (within a three, too), one is not so, or PLAYERS are FULL: those ahead came.");
    UmpireLost x = new UmpireLost();
    due("of a missing row", x.players(0, 0, 10), 0);
    x.row(0, SHORTS, 0);
    due("of a row without elements", x.players(0, 0, 1), 0);
    for (int length = 1; length <= 9; length++) {
      UmpireLost y = new UmpireLost();
      y.row(0, SHORTS, length);
      due("of " + length + " elements", y.players(0, 0, 10), length / 3);
      due("count(0)", y.count(0), length / 3);
    }
    UmpireLost z = new UmpireLost();
    z.row(0, SHORTS, 60);
    for (int i : new int[] {58, 59, 60, 61, LAST - 2, LAST - 1, LAST, -1, -2, -3, FIRST, FIRST + 1}) {
      due("players(0, " + i + ", 1)", z.players(0, i, 1), 0);
    }
    due("players(0, 0, 10)", z.players(0, 0, 10), 10);
    due("players(0, 30, 1) when full", z.players(0, 30, 1), 0);
    due("count(0)", z.count(0), 10);
    UmpireLost nine = many(9);
    row(nine, 0, SHORTS, 1, 2, 3, 4, 5, 6);
    due("players(0, 0, 2) of nine", nine.players(0, 0, 2), 1);
    due("of(9, 0)", nine.of(9, SKILL), 1);
    due("players(1, 0, 1), missing, when full", nine.players(1, 0, 1), 0);
    due("player(5)", nine.player(5), FULL);
  }

  private static void playersOneNotSo() {
    holds(3, "one is not so, or PLAYERS are FULL: those ahead came.");
    int[] most = {9, 99, 255};
    for (int part = 0; part < 3; part++) {
      for (long v : new long[] {-1, most[part] + 1, Short.MAX_VALUE, Short.MIN_VALUE}) {
        UmpireLost x = withRow(1, 1, 1, 2, 2, 2, 3, 3, 3, 4, 4, 4);
        x.put(0, 6 + part, v);
        due("part " + part + " of the third is " + v, x.players(0, 0, 4), 2);
        due("count(0)", x.count(0), 2);
        due("players(0, 6, 1)", x.players(0, 6, 1), 0);
        due("players(0, 9, 1)", x.players(0, 9, 1), 1);
      }
      for (int v : new int[] {0, most[part]}) {
        UmpireLost x = withRow(1, 1, 1, 2, 2, 2);
        x.put(0, part, v);
        due("part " + part + " is " + v, x.players(0, 0, 2), 2);
        due("of(0, " + part + ")", x.of(0, part), v);
      }
    }
  }

  private static void playersRefusals() {
    Stand house = Stand.house();
    holds(3, "from place i on, n (1 .. 10) of them: how many came.");
    for (int n : outside(1, 10)) {
      refused(house, "players(1, 0, " + n + ")", x -> x.players(1, 0, n), BAD);
    }
    holds(3, "BAD, -12 (no ROW of shorts; a SHELF that holds nothing is missing).");
    for (int shelf : outside(0, 5)) {
      refused(house, "players(" + shelf + ", 0, 1)", x -> x.players(shelf, 0, 1), BAD);
    }
    for (int shelf : new int[] {0, 2, 3, 4}) {
      refused(house, "players(" + shelf + ", 0, 1)", x -> x.players(shelf, 0, 1), OTHER_KIND);
      refused(house, "players(" + shelf + ", 60, 10)", x -> x.players(shelf, 60, 10), OTHER_KIND);
    }
    house.does(x -> x.row(0, INTS, 6));
    refused(house, "players of ints", x -> x.players(0, 0, 1), OTHER_KIND);
    due("players(5, 0, 1), where nothing is", house.again().players(5, 0, 1), 0);
    holds(3, FIRST_NAMED);
    refused(house, "players(0, 0, 0)", x -> x.players(0, 0, 0), BAD);
    refused(house, "players(4, 0, 11)", x -> x.players(4, 0, 11), BAD);
    refused(house, "players(5, 0, 0)", x -> x.players(5, 0, 0), BAD);
    holds(3, "how many came.");
    refused(house, "players that do not come", x -> x.players(1, 2, 1), 0);
  }

  private static void mendWithin() {
    holds(4, "SKILL (what 0), GRUDGE (1), LOST (2), TODAY (3) of one, DAY (4), SEED (5; number 0 for these) becomes v: what it was.");
    for (int what = SKILL; what <= DAY; what++) {
      UmpireLost x = of(4);
      due("mend(0, " + what + ", most)", x.mend(0, what, MOST[what]), AT_FIRST[what]);
      due("of", x.of(0, what), MOST[what]);
      due("mend(0, " + what + ", most) again", x.mend(0, what, MOST[what]), MOST[what]);
      due("mend(0, " + what + ", 0)", x.mend(0, what, 0), MOST[what]);
      due("of", x.of(0, what), 0);
      due("mend(0, " + what + ", 1)", x.mend(0, what, 1), 0);
    }
    UmpireLost ten = many(10);
    due("mend(9, 0, 0)", ten.mend(9, SKILL, 0), 5);
    due("of(9, 0)", ten.of(9, SKILL), 0);
    due("of(8, 0)", ten.of(8, SKILL), 5);
    holds(4, "SEED (any number; 1 at first)");
    UmpireLost x = new UmpireLost();
    int was = 1;
    for (int seed : new int[] {FIRST, LAST, 0, -1, VOID, 1}) {
      due("mend(0, 5, " + seed + ")", x.mend(0, SEED, seed), was);
      due("of(0, 5)", x.of(0, SEED), seed);
      was = seed;
    }
  }

  private static void mendRefusals() {
    Stand house = Stand.house();
    holds(4, "VOID: BAD.");
    for (int what = SKILL; what <= DAY; what++) {
      int each = what;
      for (int v : outside(0, MOST[what])) {
        refused(house, "mend(0, " + what + ", " + v + ")", x -> x.mend(0, each, v), VOID);
      }
    }
    holds(4, "of one, DAY (4), SEED (5; number 0 for these)");
    for (int what = SKILL; what <= SEED; what++) {
      int each = what;
      for (int number : what < DAY ? outside(0, 5) : new int[] {1, -1, FIRST, LAST}) {
        refused(house, "mend(" + number + ", " + what + ", 1)", x -> x.mend(number, each, 1), VOID);
      }
    }
    for (int what : outside(0, 5)) {
      refused(house, "mend(0, " + what + ", 1)", x -> x.mend(0, what, 1), VOID);
    }
    refused(new Stand(), "mend(0, 0, 1) without players", x -> x.mend(0, SKILL, 1), VOID);
    holds(4, CHANGES_NOTHING);
    refused(house, "mend(5, 3, 4)", x -> x.mend(5, TODAY, 4), VOID);
  }

  private static void ofWithin() {
    Stand house = Stand.house();
    holds(5, "As of mend() (0 to 5). VOID: BAD.");
    UmpireLost x = of(4, 6);
    for (int what = SKILL; what <= SEED; what++) {
      due("of(0, " + what + ")", x.of(0, what), AT_FIRST[what]);
    }
    due("of(1, 0)", x.of(1, SKILL), 6);
    for (int what = SKILL; what <= SEED; what++) {
      int each = what;
      for (int number : what < DAY ? outside(0, 5) : new int[] {1, -1, FIRST, LAST}) {
        refused(house, "of(" + number + ", " + what + ")", y -> y.of(number, each), VOID);
      }
    }
    for (int what : outside(0, 5)) {
      refused(house, "of(0, " + what + ")", y -> y.of(0, what), VOID);
    }
    holds(5, "VOID is -2000000000.");
    due("VOID", UmpireLost.VOID, -2000000000);
    due("of(0, 0) without players", new UmpireLost().of(0, SKILL), -2000000000);
    onlyAnswers(5, "of(2, 1)", y -> y.of(2, GRUDGE));
  }

  private static void feed() {
    holds(6, "A byte (0 .. 255) comes to THE TAPE: how many it has.");
    UmpireLost x = new UmpireLost();
    due("feed(0)", x.feed(0), 1);
    due("feed(255)", x.feed(255), 2);
    due("feed(128)", x.feed(128), 3);
    Stand house = Stand.house();
    for (int letter : outside(0, 255)) {
      refused(house, "feed(" + letter + ")", y -> y.feed(letter), BAD);
    }
  }

  private static void feedFull() {
    holds(6, "THE TAPE (at most 120 bytes)");
    Stand full = Stand.text(new Stand().does(x -> x.player(5), x -> x.player(5), x -> x.player(5)), "0+".repeat(59));
    due("feed of the 119th", full.again().feed('4'), 119);
    full.does(x -> x.feed('1'), x -> x.feed('1'));
    due("count(2)", full.again().count(2), 120);
    holds(6, "BAD, FULL (120).");
    refused(full, "feed('1') of a full tape", x -> x.feed('1'), FULL);
    refused(full, "feed(0) of a full tape", x -> x.feed(0), FULL);
    holds(6, FIRST_NAMED);
    refused(full, "feed(256) of a full tape", x -> x.feed(256), BAD);
    refused(full, "feed(-1) of a full tape", x -> x.feed(-1), BAD);
    holds(6, CHANGES_NOTHING);
    UmpireLost x = full.again();
    x.feed('9');
    due("law()", x.law(), 1);
    due("odds(12)", x.odds(12), 11);
  }

  private static void lawTape() {
    holds(7, "THE TAPE becomes THE LAW: 1; -100 less its FAULT; THE TAPE is empty then.");
    UmpireLost x = many(3);
    due("law of 7", text(x, "7"), 1);
    due("count(2)", x.count(2), 0);
    due("odds(12)", x.odds(12), 7);
    due("law of 8+", text(x, "8+"), -102);
    due("count(2) behind a fault", x.count(2), 0);
    due("odds(12) behind a fault", x.odds(12), 7);
    due("feed behind a fault", x.feed('3'), 1);
    due("law", x.law(), 1);
    due("odds(12)", x.odds(12), 3);
    due("law of an empty tape", x.law(), -100);
    due("odds(12) behind it", x.odds(12), 3);
    UmpireLost y = many(3);
    due("a fault ahead of any law", text(y, "x"), -100);
    due("odds(12) without a text", y.odds(12), 6);
    due("a law is no change", y.undo(), STATE);
    holds(7, "THE LAW is a TEXT by THE TAPE (at most 120 bytes)");
    laws("0+".repeat(59) + "8", 8);
    laws("0+".repeat(59) + "12", 12);
    laws("!0" + "+0".repeat(57) + "+7-1", 7);
    UmpireLost z = many(3);
    laws(z, "!0" + "+0".repeat(57) + "+7-1", 7);
    laws(z, "!0" + "+0".repeat(57) + "+8-1", 8);
    laws(z, "!0" + "+0".repeat(57) + "+9-1", 9);
    fault("0+".repeat(60), 120);
    fault("0+".repeat(59) + "1x", 119);
    fault("x" + "0".repeat(119), 0);
    due("a law", text(x, "7"), 1);
    due("120 bytes that end too early", text(x, "0+".repeat(60)), -220);
    due("odds(12) behind it", x.odds(12), 7);
  }

  private static void laws(UmpireLost x, String text, int odds) {
    due("law of " + text, text(x, text), 1);
    due("odds(12) by " + text, x.odds(12), odds);
  }

  private static void laws(String text, int odds) {
    laws(many(3), text, odds);
  }

  private static void fault(String text, int place) {
    due("law of " + text, text(many(3), text), -100 - place);
  }

  private static void lawLines() {
    holds(7, "LINES, one or more, parted by ; .");
    laws("7", 7);
    laws("7;8", 7);
    laws("0;".repeat(59) + "0", 0);
    laws("0?1;".repeat(29) + "9", 9);
    fault("", 0);
    fault(";", 0);
    fault("7;", 2);
    fault(";7", 0);
    fault("7;;8", 2);
    fault("0;".repeat(60), 120);
    holds(7, "LINE: E, or E ? E (what counts if the first is not 0).");
    laws("1?7", 7);
    laws("-1?7", 7);
    laws("9999?7", 7);
    laws("0?7", 0);
    laws("1?0", 0);
    laws("1?0;7", 0);
    fault("?", 0);
    fault("1?", 2);
    fault("1?;7", 2);
    fault("1?2?3", 3);
    fault("(1?2)", 2);
    fault("(1;2)", 2);
    laws("0|3?2|0;5", 1);
    laws("1?((((((7))))))", 7);
    laws("((((((1))))))?7", 7);
    fault("1?(((((((7", 8);
    fault("(((((((7", 6);
    fault("1?12345", 6);
    fault("1?7)", 3);
    holds(7, "The first LINE without a first E, or whose first E is not 0, counts; none: 0.");
    laws("0?1;7;9", 7);
    laws("0?1;0?2;1?3;4", 3);
    laws("0?1;-1?2;3", 2);
    laws("0;7", 0);
    laws("0?1;0?2;0?3", 0);
  }

  private static void lawJoins() {
    holds(7, "E = A { | A }. A = B { & B }.");
    laws("0|0", 0);
    laws("0|7", 1);
    laws("0|0|0|0|3", 1);
    laws("2&4", 1);
    laws("2&0", 0);
    laws("0&2", 0);
    laws("(0|0)+3", 3);
    laws("(0|2)+3", 4);
    laws("(0&2)+3", 3);
    laws("(2&0)+3", 3);
    laws("(2&2)+3", 4);
    laws("1&1&1&1&0", 0);
    laws("1|0&0", 1);
    laws("0&0|1", 1);
    laws("1&0<1", 1);
    for (String text : new String[] {"|1", "&1"}) {
      fault(text, 0);
    }
    for (String text : new String[] {"1|", "1&", "1||1", "1&&1", "1|&1"}) {
      fault(text, 2);
    }
    holds(7, "B = S, or S < S, S = S, S > S.");
    laws("3<4", 1);
    laws("4<4", 0);
    laws("4=4", 1);
    laws("4=5", 0);
    laws("4>4", 0);
    laws("4>3", 1);
    laws("(4<4)+(4>4)+(4=5)+3", 3);
    laws("(4<5)+(5>4)+(5=5)+3", 6);
    laws("(1<2)<3", 1);
    laws("1<2&2<3", 1);
    laws("1+1<3", 1);
    for (String text : new String[] {"1<2<3", "1=1=1", "3>2>1", "1<2=1", "1=2>1"}) {
      fault(text, 3);
    }
    for (String text : new String[] {"1<", "1=", "1>", "1==1", "1<=1", "1>=1"}) {
      fault(text, 2);
    }
    holds(7, "S = P { + P, - P }. P = O { * O, / O, % O }.");
    laws("1+2+3+4", 10);
    laws("9-4-3", 2);
    laws("9-(4-3)", 8);
    laws("2+3*2", 8);
    laws("(2+3)*2", 10);
    laws("8/2/2", 2);
    laws("8/(2/2)", 8);
    laws("11%6*2", 10);
    for (String text : new String[] {"+1", "*1", "/1", "%1"}) {
      fault(text, 0);
    }
    for (String text : new String[] {"1+", "1-", "1*", "1/", "1%", "1++1", "1-+1", "1**1", "1*/1", "1+*1"}) {
      fault(text, 2);
    }
  }

  private static void lawOperands() {
    holds(7, "O = a number (1 to 4 digits), a NAME, ! O, - O, ( E ). No blanks.");
    laws("0", 0);
    laws("9", 9);
    laws("0012", 12);
    laws("9999%9998", 1);
    laws("a", 5);
    laws("!0", 1);
    laws("!7", 0);
    laws("!!7", 1);
    laws("--7", 7);
    laws("1--7", 8);
    laws("1+-7+8", 2);
    laws("(7)", 7);
    laws("((7))", 7);
    laws("!a+3", 3);
    laws("-2*-3", 6);
    fault("12345", 4);
    fault("00000", 4);
    fault("1+12345", 6);
    fault("ab", 1);
    fault("1a", 1);
    fault("a1", 1);
    fault("1!", 1);
    fault("1(", 1);
    fault("(1)(1)", 3);
    fault("()", 1);
    fault(")", 0);
    fault("1)", 1);
    fault("(1))", 3);
    for (String text : new String[] {"(", "!", "-"}) {
      fault(text, 1);
    }
    fault("(1", 2);
    fault(" 1", 0);
    fault("1 ", 1);
    fault("1 +1", 1);
    fault("1+ 1", 2);
    for (int letter = 0; letter <= 255; letter++) {
      boolean isOperand = letter >= '0' && letter <= '9' || letter < 128 && "abglmd".indexOf((char) letter) >= 0;
      boolean goesOn = letter == '(' || letter == '!' || letter == '-';
      UmpireLost x = many(3);
      x.feed(letter);
      due("law of byte " + letter + " alone", x.law(), isOperand ? 1 : goesOn ? -101 : -100);
    }
  }

  private static void lawNames() {
    holds(7, "NAMES: a SKILL of the one, b SKILL of the other one, g GRUDGE of the UMPIRE, l on how many of the eight days the UMPIRE LOST, "
        + "m the same of the one, d DAY.");
    UmpireLost x = of(9, 0, 5);
    String[] names = {"a", "b", "l", "m"};
    int[] due = {9, 0, 0, 0}, turned = {0, 9, 0, 0};
    for (int i = 0; i < names.length; i++) {
      text(x, names[i]);
      due(names[i], x.odds(12), due[i]);
      due(names[i] + " of the other way", x.odds(102), turned[i]);
    }
    x.mend(2, LOST, 255);
    laws(x, "l", 8);
    x.mend(2, LOST, 128);
    laws(x, "l", 1);
    x.mend(0, LOST, 255);
    laws(x, "m", 8);
    x.mend(0, LOST, 129);
    laws(x, "m", 2);
    x.mend(1, LOST, 255);
    laws(x, "l*4+m", 6);
    x.mend(2, GRUDGE, 99);
    laws(x, "g-90", 9);
    x.mend(2, GRUDGE, 0);
    laws(x, "g+3", 3);
    x.mend(0, GRUDGE, 50);
    laws(x, "g+4", 4);
    laws(x, "d+2", 2);
    x.mend(0, DAY, 99);
    laws(x, "d-90", 9);
  }

  private static void lawOpen() {
    holds(7, "At most 6 of ( ! - ahead of an O are open at once.");
    laws("((((((7))))))", 7);
    laws("!!!!!!7", 1);
    laws("------7", 7);
    laws("!-(!-(7))", 1);
    laws("((((((1))))))+((((((2))))))", 3);
    laws("!!!!!!1+!!!!!!1", 2);
    laws("(((((!1+!1)))))", 0);
    laws("1-------1", 0);
    laws("9------1", 10);
    laws("8-1-1-1-1-1-1-1", 1);
    laws("((((((1-1+1))))))", 1);
    laws("(1)+(1)+(1)+(1)+(1)+(1)+(1)", 7);
    laws("------1?!!!!!!1;((((((1))))))", 1);
    for (String text : new String[] {"(((((((", "!!!!!!!", "-------", "!-(!-(!", "!-(!-(-", "!-(!-((", "((((((!1", "(((((--1", "!!!!!!(1)"}) {
      fault(text, 6);
    }
    fault("1--------1", 8);
    fault("!-(!-(7", 7);
    fault("((((((1))))))+(((((((", 20);
    fault("((((((1+!1))))))", 8);
  }

  private static void lawNumbers() {
    holds(7, "Ints that wrap; / and % toward 0, by 0 they give 0; | & < = > ! give 1, 0; all is worked out.");
    String least = "(-2147*1000*1000-483*1000-648)", most = "(2147*1000*1000+483*1000+647)";
    laws(most + ">0", 1);
    laws(most + "+1<0", 1);
    laws(most + "+1=" + least, 1);
    laws(least + "-1=" + most, 1);
    laws("-" + least + "=" + least, 1);
    laws(least + "/-1=" + least, 1);
    laws(least + "%-1+5", 5);
    laws(most + "*2+7", 5);
    laws("-7/2+9", 6);
    laws("7/-2+9", 6);
    laws("-7/-2", 3);
    laws("-7%4+9", 6);
    laws("7%-4", 3);
    laws("-7%-4+9", 6);
    laws("7/0+2", 2);
    laws("7%0+3", 3);
    laws("0/0+4", 4);
    laws("0%0+5", 5);
    laws(least + "/0+6", 6);
    laws("-5|0", 1);
    laws("-5&-6", 1);
    laws("!-5+3", 3);
    laws("1|1/0", 1);
    laws("0&1/0", 0);
    laws("0&1%0|4>3", 1);
  }

  private static void lawFaults() {
    UmpireLost x = many(3);
    holds(7, "FAULT: the place (from 0) of the first byte with which no TEXT goes on; the length, if it ends too early.");
    String[] texts = {"", "x", "7x", "7+x", "7+", "7+8)", "(7+8", "(7+8;", "7?", "7?8x", "7?8;x", "7x+x", "7+8\u00ff", "a<b<"};
    int[] places = {0, 0, 1, 2, 2, 3, 4, 4, 2, 3, 4, 1, 3, 3};
    for (int i = 0; i < texts.length; i++) {
      fault(texts[i], places[i]);
    }
    x.feed('7');
    x.feed(0);
    due("law of a byte 0", x.law(), -101);
  }

  private static void lawGives() {
    holds(7, "It gives in how many of twelve the one wins (held within 0 .. 12).");
    laws("0", 0);
    laws("1", 1);
    laws("11", 11);
    laws("12", 12);
    laws("13", 12);
    laws("9999", 12);
    laws("-1", 0);
    laws("-9999", 0);
    laws("9999*9999*21", 12);
    laws("9999*9999*22", 0);
  }

  private static void oddsWithoutText() {
    holds(8, "Without a text: 6, and a, less b, and g by 20 (cut), less m by 2 (cut).");
    UmpireLost x = many(3);
    due("alike", x.odds(12), 6);
    int[] grudges = {0, 19, 20, 39, 40, 59, 60, 79, 80, 99};
    for (int grudge : grudges) {
      x.mend(2, GRUDGE, grudge);
      due("grudge " + grudge, x.odds(12), 6 + grudge / 20);
    }
    x.mend(2, GRUDGE, 0);
    int[] lost = {0, 1, 3, 7, 15, 31, 63, 127, 255}, due = {6, 6, 5, 5, 4, 4, 3, 3, 2};
    for (int i = 0; i < lost.length; i++) {
      x.mend(0, LOST, lost[i]);
      due("lost " + lost[i], x.odds(12), due[i]);
      due("lost by the other one", x.odds(102), 6);
    }
    holds(8, "It gives in how many of twelve the one wins (held within 0 .. 12).");
    UmpireLost y = of(9, 0, 5);
    due("nine against none", y.odds(12), 12);
    due("none against nine", y.odds(102), 0);
    y.mend(1, SKILL, 3);
    due("just twelve", y.odds(12), 12);
    due("just none", y.odds(102), 0);
    y.mend(1, SKILL, 4);
    due("eleven", y.odds(12), 11);
    due("one", y.odds(102), 1);
  }

  private static void oddsOfThree() {
    Stand house = Stand.house();
    holds(8, "ODDS of a MATCH (of three unlike, whoever LOST): of how many of twelve the one wins.");
    UmpireLost x = of(5, 6, 5, 5, 5, 5, 5, 5, 5, 9);
    due("whose umpire did not lose", x.odds(12), 5);
    due("of 9, 8, 7", x.odds(987), 10);
    due("of 0, 1, 9", x.odds(19), 5);
    x.mend(2, TODAY, 3);
    x.mend(0, TODAY, 1);
    due("of those who played", x.odds(12), 5);
    holds(8, "players (abu: 100 times the one, 10 times the other one, and the UMPIRE; three unlike).");
    for (int abu : NO_THREES) {
      refused(house, "odds(" + abu + ")", y -> y.odds(abu), BAD);
    }
    for (int abu : new int[] {-12, -120, -999, 1012, 2012, 12 - 1000}) {
      refused(house, "odds(" + abu + ")", y -> y.odds(abu), BAD);
    }
    holds(8, "ODDS. BAD.");
    refused(new Stand().does(y -> y.player(5), y -> y.player(5)), "odds(12) of two players", y -> y.odds(12), BAD);
    due("odds(12) of three", many(3).odds(12), 6);
    ofAllThrees("the one's skill", numbered("a"), UmpireLost::odds, (a, b, u) -> a, BAD);
    ofAllThrees("the other one's skill", numbered("b"), UmpireLost::odds, (a, b, u) -> b, BAD);
    ofAllThrees("the umpire's grudge", numbered("g"), UmpireLost::odds, (a, b, u) -> u, BAD);
    onlyAnswers(8, "odds(12)", y -> y.odds(12));
  }

  private static void judges() {
    holds(9, "JUDGES: who LOST yesterday (bits).");
    UmpireLost x = many(10);
    due("nobody", x.judges(), 0);
    for (int one = 0; one < 10; one++) {
      x.mend(one, LOST, 254);
    }
    due("on every day but yesterday", x.judges(), 0);
    int bits = 0;
    for (int one = 0; one < 10; one++) {
      x.mend(one, LOST, one % 2 == 0 ? 1 : 255);
      bits |= 1 << one;
      due("those up to " + one, x.judges(), bits);
    }
    for (int one = 0; one < 10; one++) {
      x.mend(one, TODAY, one % 4);
    }
    due("whatever is today", x.judges(), 1023);
    holds(9, "JUDGES (bits).");
    due("without players", new UmpireLost().judges(), 0);
    onlyAnswers(9, "judges()", y -> y.judges());
  }

  private static void bestJudge() {
    holds(10, "BEST JUDGE for one against another one: of those who may (neither of the two): the greatest of twelve "
        + "(of like ones the least; NOT).");
    UmpireLost x = many(10);
    due("nobody may", x.bestJudge(1), NOT);
    lostYesterday(x, 0, 1);
    due("but the two", x.bestJudge(1), NOT);
    due("but the two, turned", x.bestJudge(10), NOT);
    due("one of them for others", x.bestJudge(98), 0);
    lostYesterday(x, 9, 7, 4);
    due("of like ones the least", x.bestJudge(1), 4);
    x.mend(9, GRUDGE, 20);
    due("the greatest", x.bestJudge(1), 9);
    x.mend(7, GRUDGE, 39);
    due("of like ones the least", x.bestJudge(1), 7);
    x.mend(8, GRUDGE, 99);
    due("only who may", x.bestJudge(1), 7);
    x.mend(7, TODAY, 1);
    due("who judged today may", x.bestJudge(1), 7);
    text(x, "0");
    due("of none of twelve", x.bestJudge(1), 4);
    text(x, "99");
    due("of twelve at most", x.bestJudge(1), 4);
  }

  private static void bestJudgeRefusals() {
    Stand house = Stand.house();
    holds(10, "BEST JUDGE (ab: 10 times the one, and the other one, unlike). BAD; NOT.");
    for (int ab : new int[] {-1, 100, FIRST, LAST, 0, 11, 55, 99, 6, 60, 66, 16, 61, 101, 110, -10, -12, -99}) {
      refused(house, "bestJudge(" + ab + ")", x -> x.bestJudge(ab), BAD);
    }
    refused(new Stand(), "bestJudge(1) without players", x -> x.bestJudge(1), BAD);
    Stand three = new Stand().does(x -> x.player(5), x -> x.player(5), x -> x.mend(0, LOST, 1));
    refused(three, "bestJudge(1)", x -> x.bestJudge(1), NOT);
    due("bestJudge(98) of ten", manyJudges().bestJudge(98), 0);
    due("bestJudge(89) of ten", manyJudges().bestJudge(89), 0);
    holds(10, FIRST_NAMED);
    refused(three, "bestJudge(11), which would be NOT", x -> x.bestJudge(11), BAD);
    onlyAnswers(10, "bestJudge(34)", x -> x.bestJudge(34));
  }

  private static UmpireLost manyJudges() {
    UmpireLost x = many(10);
    for (int one = 0; one < 10; one++) {
      lostYesterday(x, one);
    }
    return x;
  }
}
