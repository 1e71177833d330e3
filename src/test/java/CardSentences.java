/** Promises 11 to 15: cards, matches at once, whom to lose to. */
final class CardSentences extends Sentences {
  private static final String CARD = "A CARD: a ROW of bytes on a SHELF: by threes the one, the other one, the UMPIRE: MATCHES one behind "
      + "the other on a DAY (8 threes at most; it ends with what is no MATCH that CAN BE HELD then).";
  private static final String MATCH = "A MATCH: the one, the other one, the UMPIRE: three unlike PLAYERS; the UMPIRE LOST yesterday.";
  private static final String CAN_BE_HELD = "It CAN BE HELD, if besides none of the three played or judged TODAY.";
  private static final String CARDS = "cards (on a SHELF: BAD, -11, -12 (no ROW of bytes)).";
  private static final String A_DAY_ENDS = "A DAY ends: LOST of each becomes twice that, and 1, if TODAY says he lost (the latest eight are "
      + "kept); GRUDGE of who lost is 3 more (99 at most), of who did not 1 less (0 at least); TODAY is 0; DAY is one more (99 stays).";

  /** A call that reads a card of a shelf. */
  interface OfShelf {
    long of(UmpireLost x, int shelf);
  }

  static void hold() {
    held();
    heldEnds();
    heldPlayed();
    byOdds();
    byOddsEnds();
    behindDays();
    behindDayEnds();
    behindNumbers();
    behindRefusals();
    atOnceMost();
    atOnceEach();
    atOnceRefusals();
    tomorrow();
    tomorrowRefusals();
  }

  /** What all calls that read a row of bytes refuse. */
  static void onlyBytes(OfShelf call) {
    Stand house = Stand.house();
    for (int shelf : outside(0, 5)) {
      refused(house, "of shelf " + shelf, x -> call.of(x, shelf), BAD);
    }
    refused(house, "where nothing is", x -> call.of(x, 5), NOTHING_THERE);
    refused(house, "of shorts", x -> call.of(x, 1), OTHER_KIND);
    refused(house, "of longs", x -> call.of(x, 2), OTHER_KIND);
    refused(house, "of booleans", x -> call.of(x, 3), OTHER_KIND);
    refused(house, "of a stool", x -> call.of(x, 4), OTHER_KIND);
    refused(house.does(x -> x.row(5, INTS, 9)), "of ints", x -> call.of(x, 5), OTHER_KIND);
    refused(house.does(x -> x.keep(5, -1)), "where nothing is any more", x -> call.of(x, 5), NOTHING_THERE);
  }

  /** So many players, all of whom lost yesterday. */
  static UmpireLost losers(int n) {
    UmpireLost x = many(n);
    for (int one = 0; one < n; one++) {
      lostYesterday(x, one);
    }
    return x;
  }

  private static UmpireLost withCard(UmpireLost x, long... card) {
    row(x, 0, BYTES, card);
    return x;
  }

  private static void held() {
    holds(11, "HELD: how many MATCHES of a CARD CAN BE HELD.");
    due("of nine", withCard(losers(9), 0, 1, 2, 3, 4, 5, 6, 7, 8).held(0), 3);
    due("of three", withCard(losers(3), 2, 1, 0).held(0), 1);
    due("of two", withCard(losers(2), 0, 1, 1).held(0), 0);
    due("without players", withCard(new UmpireLost(), 0, 1, 2).held(0), 0);
    holds(11, "HELD.");
    UmpireLost x = withCard(losers(3), 0, 1, 2);
    due("held(0)", x.held(0), 1);
    due("held(0) again", x.held(0), 1);
    due("of(0, 3)", x.of(0, TODAY), 0);
    holds(11, CARDS);
    onlyBytes((y, shelf) -> y.held(shelf));
    onlyAnswers(11, "held(0)", y -> y.held(0));
  }

  private static void heldEnds() {
    holds(11, CARD);
    UmpireLost x = losers(10);
    long[] card = new long[60];
    for (int i = 0; i < card.length; i++) {
      card[i] = i % 10;
    }
    // Ten players are never in more than three matches a day, so nobody sees the eighth three end the card.
    due("sixty bytes", withCard(x, card).held(0), 3);
    for (int length = 0; length <= 9; length++) {
      due(length + " bytes", withCard(x, java.util.Arrays.copyOf(card, length)).held(0), length / 3);
    }
    due("a missing umpire is not 0", withCard(x, 3, 4).held(0), 0);
    due("a first that is none ends it", withCard(x, 0, 0, 1, 3, 4, 5, 6, 7, 8).held(0), 0);
    due("a second that is none ends it", withCard(x, 0, 1, 2, 3, 3, 4, 6, 7, 8).held(0), 1);
    holds(11, MATCH);
    long[][] unlike = {{3, 3, 4}, {3, 4, 3}, {4, 3, 3}, {3, 3, 3}};
    for (long[] three : unlike) {
      due("like ones", withCard(x, 0, 1, 2, three[0], three[1], three[2]).held(0), 1);
    }
    for (int place = 0; place < 3; place++) {
      for (long one : new long[] {10, 11, 127, -1, -128}) {
        long[] three = {3, 4, 5};
        three[place] = one;
        due("no player " + one, withCard(x, 0, 1, 2, three[0], three[1], three[2]).held(0), 1);
      }
    }
    UmpireLost y = withCard(losers(6), 3, 4, 5);
    due("of six", y.held(0), 1);
    due("a seventh", withCard(y, 3, 4, 6).held(0), 0);
    for (int lost : new int[] {0, 2, 254}) {
      UmpireLost z = withCard(losers(3), 0, 1, 2);
      z.mend(2, LOST, lost);
      due("an umpire who lost on " + lost, z.held(0), 0);
      z.mend(2, LOST, lost | 1);
      z.mend(0, LOST, 0);
      z.mend(1, LOST, 0);
      due("an umpire who lost on " + (lost | 1), z.held(0), 1);
    }
  }

  private static void heldPlayed() {
    holds(11, CAN_BE_HELD);
    for (int one = 0; one < 3; one++) {
      int[] due = {1, 0, 1, 0};
      for (int today = 0; today < 4; today++) {
        UmpireLost x = withCard(losers(3), 0, 1, 2);
        x.mend(one, TODAY, today);
        due("of " + one + " is " + today, x.held(0), due[today]);
      }
    }
    due("who played in the first", withCard(losers(9), 0, 1, 2, 0, 4, 5).held(0), 1);
    due("who lost in the first", withCard(losers(9), 0, 1, 2, 4, 1, 5).held(0), 1);
    due("who judged in the first", withCard(losers(9), 0, 1, 2, 4, 5, 2).held(0), 1);
  }

  private static void byOdds() {
    holds(12, "BY ODDS: in each MATCH of a CARD the one wins, if he does in 6 or more of twelve: who loses (bits).");
    int[] due = {1, 1, 1, 1, 1, 1, 2, 2, 2, 2, 2, 2, 2};
    for (int odds = 0; odds <= 12; odds++) {
      UmpireLost x = withCard(losers(3), 0, 1, 2);
      text(x, String.valueOf(odds));
      due("by " + odds + " of twelve", x.loses(0), due[odds]);
    }
    UmpireLost x = withCard(losers(10), 9, 8, 7, 6, 5, 4, 3, 2, 1);
    due("of three matches", x.loses(0), 1 << 8 | 1 << 5 | 1 << 2);
    x.mend(9, SKILL, 4);
    due("a weaker one loses", x.loses(0), 1 << 9 | 1 << 5 | 1 << 2);
    x.mend(0, TODAY, 2);
    due("who had lost before is none of them", x.loses(0), 1 << 9 | 1 << 5 | 1 << 2);
    holds(12, "BY ODDS: who loses (bits).");
    due("again, as nothing was held in deed", x.loses(0), 1 << 9 | 1 << 5 | 1 << 2);
    due("of(9, 3)", x.of(9, TODAY), 0);
    holds(12, CARDS);
    onlyBytes((y, shelf) -> y.loses(shelf));
    onlyAnswers(12, "loses(0)", y -> y.loses(0));
  }

  private static void byOddsEnds() {
    holds(12, CARD);
    UmpireLost x = losers(9);
    int[] due = {0, 0, 0, 2, 2, 2, 2 + 16, 2 + 16, 2 + 16, 2 + 16 + 128};
    long[] card = {0, 1, 2, 3, 4, 5, 6, 7, 8};
    for (int length = 0; length <= 9; length++) {
      due(length + " bytes", withCard(x, java.util.Arrays.copyOf(card, length)).loses(0), due[length]);
    }
    due("a second that is none ends it", withCard(x, 0, 1, 2, 3, 4, 4, 6, 7, 8).loses(0), 2);
    due("without players", withCard(new UmpireLost(), 0, 1, 2).loses(0), 0);
    holds(12, CAN_BE_HELD);
    withCard(x, 0, 1, 2, 3, 4, 5).mend(3, TODAY, 1);
    due("who played", x.loses(0), 2);
    x.mend(2, LOST, 254);
    holds(12, MATCH);
    due("an umpire who did not lose", x.loses(0), 0);
  }

  private static void behindDays() {
    holds(13, "BEHIND n (0 .. 20) such DAYS (the same CARD each DAY, each ended): LOST, GRUDGE of one; who may judge (bits); how many MATCHES "
        + "were held in all.");
    UmpireLost x = withCard(losers(4), 0, 1, 2);
    x.mend(0, GRUDGE, 7);
    due("LOST of 0 behind no day", x.behind(0, 0, 0, 0), 1);
    due("GRUDGE of 0 behind no day", x.behind(0, 0, 0, 1), 7);
    due("who may judge behind no day", x.behind(0, 0, 0, 2), 15);
    due("held on no day", x.behind(0, 0, 0, 3), 0);
    due("LOST of 0 behind one day", x.behind(0, 1, 0, 0), 2);
    due("LOST of 1 behind one day", x.behind(0, 1, 1, 0), 3);
    due("GRUDGE of 0 behind one day", x.behind(0, 1, 0, 1), 6);
    due("GRUDGE of 1 behind one day", x.behind(0, 1, 1, 1), 3);
    due("who may judge behind one day", x.behind(0, 1, 0, 2), 2);
    due("held on one day", x.behind(0, 1, 0, 3), 1);
    due("held on two days", x.behind(0, 2, 0, 3), 1);
    due("LOST of 1 behind eight days", x.behind(0, 7, 1, 0), 192);
    due("LOST of 1 behind twenty days", x.behind(0, 20, 1, 0), 0);
    due("GRUDGE of 1 behind twenty days", x.behind(0, 20, 1, 1), 0);
    due("held on twenty days", x.behind(0, 20, 0, 3), 1);
    for (int seed : new int[] {0, 1, 2, 3, -1, LAST, FIRST, 4711}) {
      UmpireLost z = withCard(losers(3), 0, 1, 2);
      z.mend(0, SEED, seed);
      text(z, "5");
      due("by 5 of twelve, whatever the seed", z.behind(0, 1, 0, 2), 1);
      text(z, "6");
      due("by 6 of twelve, whatever the seed", z.behind(0, 1, 0, 2), 2);
    }
    due("of(1, 2), as nothing was held in deed", x.of(1, LOST), 1);
    due("day", x.of(0, DAY), 0);
    UmpireLost y = withCard(of(9, 0, 0), 0, 1, 2, 0, 2, 1);
    y.mend(2, LOST, 1);
    due("who lost could judge the second, but the first ends each day", y.behind(0, 20, 0, 3), 1);
    y.mend(2, TODAY, 2);
    due("an umpire who lost today, too", y.behind(0, 20, 0, 3), 2);
    due("an umpire who lost today, too, on one day", y.behind(0, 1, 0, 3), 1);
  }

  private static void behindDayEnds() {
    holds(13, A_DAY_ENDS);
    UmpireLost x = new UmpireLost();
    x.row(0, BYTES, 0);
    int[] lost = {0, 1, 127, 128, 255};
    for (int each : lost) {
      x.player(5);
    }
    for (int one = 0; one < 5; one++) {
      x.mend(one, LOST, lost[one]);
      due("LOST of " + lost[one], x.behind(0, 1, one, 0), new int[] {0, 2, 254, 0, 254}[one]);
      x.mend(one, TODAY, 2);
      due("LOST of " + lost[one] + ", who lost today", x.behind(0, 1, one, 0), new int[] {1, 3, 255, 1, 255}[one]);
      x.mend(one, TODAY, 1);
      due("LOST of " + lost[one] + ", who played today", x.behind(0, 1, one, 0), new int[] {0, 2, 254, 0, 254}[one]);
      x.mend(one, TODAY, 3);
      due("LOST of " + lost[one] + ", who played and lost", x.behind(0, 1, one, 0), new int[] {1, 3, 255, 1, 255}[one]);
    }
    int[] grudges = {0, 1, 95, 96, 97, 98, 99}, more = {3, 4, 98, 99, 99, 99, 99}, less = {0, 0, 94, 95, 96, 97, 98};
    for (int i = 0; i < grudges.length; i++) {
      x.mend(0, GRUDGE, grudges[i]);
      x.mend(0, TODAY, 3);
      due("GRUDGE " + grudges[i] + " of who lost", x.behind(0, 1, 0, 1), more[i]);
      x.mend(0, TODAY, 1);
      due("GRUDGE " + grudges[i] + " of who did not", x.behind(0, 1, 0, 1), less[i]);
    }
    UmpireLost y = withCard(losers(3), 0, 1, 2);
    y.mend(0, TODAY, 1);
    due("TODAY is 0 behind a day: but nobody lost", y.behind(0, 2, 0, 3), 0);
    y.mend(2, TODAY, 2);
    due("TODAY is 0 behind a day: the umpire lost", y.behind(0, 2, 0, 3), 1);
    UmpireLost z = withCard(losers(3), 0, 1, 2);
    text(z, "(d=99)*12");
    z.mend(0, DAY, 98);
    due("on day 98 the one loses", z.behind(0, 1, 0, 2), 1);
    z.mend(0, DAY, 99);
    due("on day 99 the one wins", z.behind(0, 1, 0, 2), 2);
    z.mend(2, TODAY, 2);
    z.mend(0, TODAY, 1);
    due("day 99 stays", z.behind(0, 2, 0, 2), 2);
    z.mend(0, DAY, 98);
    due("98 becomes 99", z.behind(0, 2, 0, 2), 2);
    z.mend(0, DAY, 97);
    due("97 becomes 98", z.behind(0, 2, 0, 2), 1);
  }

  private static void behindNumbers() {
    holds(13, CARD);
    UmpireLost x = losers(9);
    due("nine bytes", withCard(x, 0, 1, 2, 3, 4, 5, 6, 7, 8).behind(0, 1, 0, 3), 3);
    due("eight bytes", withCard(x, 0, 1, 2, 3, 4, 5, 6, 7).behind(0, 1, 0, 3), 2);
    due("no bytes", withCard(x).behind(0, 20, 0, 3), 0);
    due("a first that is none", withCard(x, 0, 0, 2, 3, 4, 5).behind(0, 20, 0, 3), 0);
    due("who may judge behind nothing held", x.behind(0, 1, 0, 2), 0);
    holds(13, MATCH);
    due("one that is none any more", withCard(x, 0, 1, 2, 3, 4, 1).behind(0, 1, 0, 3), 1);
    due("is one on the next day", withCard(x, 0, 1, 2, 3, 4, 1).behind(0, 2, 0, 3), 1);
    holds(13, CAN_BE_HELD);
    x.mend(3, TODAY, 1);
    due("who played", withCard(x, 0, 1, 2, 3, 4, 5).behind(0, 1, 0, 3), 1);
    holds(13, "JUDGES: who LOST yesterday (bits).");
    due("without players", withCard(new UmpireLost(), 0, 1, 2).behind(0, 20, 0, 2), 0);
    due("without players", withCard(new UmpireLost(), 0, 1, 2).behind(0, 20, 0, 3), 0);
  }

  private static void behindRefusals() {
    Stand house = Stand.house();
    holds(13, "BEHIND n DAYS: LOST (what 0), GRUDGE (1) of one, who may judge (2; bits), how many were held (3; one 0 for both).");
    for (int what : outside(0, 3)) {
      refused(house, "behind(0, 1, 0, " + what + ")", x -> x.behind(0, 1, 0, what), BAD);
    }
    for (int one : outside(0, 5)) {
      refused(house, "LOST of " + one, x -> x.behind(0, 1, one, 0), BAD);
      refused(house, "GRUDGE of " + one, x -> x.behind(0, 1, one, 1), BAD);
    }
    for (int one : new int[] {1, 5, -1, FIRST, LAST}) {
      refused(house, "who may judge, one " + one, x -> x.behind(0, 1, one, 2), BAD);
      refused(house, "how many were held, one " + one, x -> x.behind(0, 1, one, 3), BAD);
    }
    holds(13, "BEHIND n (0 .. 20) such DAYS");
    for (int n : outside(0, 20)) {
      refused(house, "behind(0, " + n + ", 0, 3)", x -> x.behind(0, n, 0, 3), BAD);
    }
    due("behind(0, 20, 0, 3)", house.again().behind(0, 20, 0, 3) >= 0 ? 1 : 0, 1);
    holds(13, CARDS);
    for (int what = 0; what < 4; what++) {
      int each = what;
      onlyBytes((x, shelf) -> x.behind(shelf, 1, 0, each));
    }
    holds(13, FIRST_NAMED);
    for (int shelf = 1; shelf < 6; shelf++) {
      int each = shelf;
      refused(house, "a bad n of shelf " + shelf, x -> x.behind(each, 21, 0, 3), BAD);
      refused(house, "a bad one of shelf " + shelf, x -> x.behind(each, 1, 6, 0), BAD);
      refused(house, "a bad what of shelf " + shelf, x -> x.behind(each, 1, 0, 4), BAD);
    }
    refused(new Stand(), "LOST of 0 without players", x -> x.behind(0, 0, 0, 0), BAD);
    refused(new Stand(), "who may judge without players", x -> x.behind(0, 0, 0, 2), NOTHING_THERE);
    onlyAnswers(13, "behind(0, 20, 0, 3)", x -> x.behind(0, 20, 0, 3));
  }

  private static void atOnceMost() {
    holds(14, "AT ONCE: the most MATCHES that CAN BE HELD at once (nobody in two, the one less than the other one): how many; the k-th (100 "
        + "times the one, 10 times the other one, the UMPIRE; of like ones the first, by these numbers); NOT.");
    int[] most = {0, 0, 0, 1, 1, 1, 2, 2, 2, 3, 3};
    for (int n = 0; n <= 10; n++) {
      due("of " + n + " who all lost", losers(n).atOnce(-1), most[n]);
      due("of " + n + " who did not", many(n).atOnce(-1), 0);
    }
    UmpireLost x = many(10);
    int[] byJudges = {1, 2, 3, 3, 3};
    for (int judge = 0; judge < 5; judge++) {
      lostYesterday(x, judge);
      due("of ten, of whom " + (judge + 1) + " lost", x.atOnce(-1), byJudges[judge]);
    }
    holds(14, CAN_BE_HELD);
    UmpireLost y = losers(9);
    y.mend(8, TODAY, 1);
    due("one of nine played", y.atOnce(-1), 2);
    y.mend(8, TODAY, 2);
    due("one of nine only lost", y.atOnce(-1), 3);
    y.mend(8, TODAY, 3);
    due("one of nine played and lost", y.atOnce(-1), 2);
    for (int one = 0; one < 6; one++) {
      y.mend(one, TODAY, 1);
    }
    due("two are left", y.atOnce(-1), 0);
  }

  private static void atOnceEach() {
    holds(14, "of like ones the first, by these numbers); NOT.");
    UmpireLost x = losers(9);
    due("first", x.atOnce(0), 12);
    due("second", x.atOnce(1), 345);
    due("third", x.atOnce(2), 678);
    due("fourth", x.atOnce(3), NOT);
    due("of three", losers(3).atOnce(0), 12);
    holds(14, "(nobody in two, the one less than the other one)");
    UmpireLost y = many(9);
    lostYesterday(y, 0);
    due("0 alone may judge", y.atOnce(0), 120);
    lostYesterday(y, 8);
    due("0 and 8 may judge: the first", y.atOnce(0), 120);
    due("0 and 8 may judge: the second", y.atOnce(1), 348);
    lostYesterday(y, 1);
    due("0, 1 and 8 may judge: the first", y.atOnce(0), 230);
    due("0, 1 and 8 may judge: the second", y.atOnce(1), 451);
    due("0, 1 and 8 may judge: the third", y.atOnce(2), 678);
    UmpireLost ten = many(10);
    lostYesterday(ten, 9, 8);
    due("8 and 9 of ten may judge: the first", ten.atOnce(0), 18);
    due("8 and 9 of ten may judge: the second", ten.atOnce(1), 239);
    ten.mend(0, TODAY, 1);
    due("0 played: the first", ten.atOnce(0), 128);
    due("0 played: the second", ten.atOnce(1), 349);
    holds(14, MATCH);
    ten.mend(8, LOST, 254);
    due("9 alone may judge", ten.atOnce(0), 129);
    due("9 alone may judge: no second", ten.atOnce(1), NOT);
  }

  private static void atOnceRefusals() {
    Stand house = Stand.house();
    holds(14, "AT ONCE: how many (k -1), the k-th (NOT: there are not as many). BAD; NOT.");
    for (int k : new int[] {-2, -3, FIRST}) {
      refused(house, "atOnce(" + k + ")", x -> x.atOnce(k), BAD);
    }
    int most = house.again().atOnce(-1);
    due("atOnce(-1) of six, of whom two may judge", most, 2);
    due("atOnce(1)", house.again().atOnce(1) >= 0 ? 1 : 0, 1);
    for (int k : new int[] {2, 3, LAST}) {
      refused(house, "atOnce(" + k + ")", x -> x.atOnce(k), NOT);
    }
    refused(new Stand(), "atOnce(0) without players", x -> x.atOnce(0), NOT);
    refused(new Stand(), "atOnce(-2) without players", x -> x.atOnce(-2), BAD);
    due("atOnce(-1) without players", new UmpireLost().atOnce(-1), 0);
    onlyAnswers(14, "atOnce(-1)", x -> x.atOnce(-1));
    onlyAnswers(14, "atOnce(1)", x -> x.atOnce(1));
  }

  private static void tomorrow() {
    holds(15, "JUDGE TOMORROW: against whom one has the least odds TODAY by some UMPIRE, the MATCH that CAN BE HELD (100 times the other one, "
        + "and the UMPIRE; of like ones the least); NOT.");
    UmpireLost x = losers(10);
    due("of like ones the least", x.tomorrow(9), 1);
    due("of like ones the least for 0", x.tomorrow(0), 102);
    due("of like ones the least for 1", x.tomorrow(1), 2);
    x.mend(9, SKILL, 6);
    due("against the strongest", x.tomorrow(0), 901);
    x.mend(1, GRUDGE, 20);
    due("by who holds no grudge", x.tomorrow(0), 902);
    x.mend(9, LOST, 0);
    due("who need not have lost", x.tomorrow(0), 902);
    x.mend(2, LOST, 254);
    due("by who may judge", x.tomorrow(0), 903);
    text(x, "0");
    due("of none of twelve", x.tomorrow(0), 101 + 2);
    text(x, "99");
    due("of twelve of twelve", x.tomorrow(0), 101 + 2);
    holds(15, CAN_BE_HELD);
    x.mend(1, TODAY, 1);
    due("who did not play", x.tomorrow(0), 203);
    x.mend(3, TODAY, 3);
    due("who did not judge", x.tomorrow(0), 204);
    x.mend(3, TODAY, 2);
    due("who lost but did not play", x.tomorrow(0), 203);
    x.mend(0, TODAY, 1);
    due("one who played", x.tomorrow(0), NOT);
  }

  private static void tomorrowRefusals() {
    Stand house = Stand.house();
    holds(15, "JUDGE TOMORROW. BAD; NOT.");
    for (int one : outside(0, 5)) {
      refused(house, "tomorrow(" + one + ")", x -> x.tomorrow(one), BAD);
    }
    refused(new Stand(), "tomorrow(0) without players", x -> x.tomorrow(0), BAD);
    Stand two = new Stand().does(x -> x.player(5), x -> x.player(5), x -> x.mend(0, LOST, 1));
    refused(two, "tomorrow(0) of two", x -> x.tomorrow(0), NOT);
    refused(two, "tomorrow(1) of two", x -> x.tomorrow(1), NOT);
    two.does(x -> x.player(5));
    refused(two, "tomorrow(0) of three, who alone may judge", x -> x.tomorrow(0), NOT);
    due("tomorrow(1) of three", two.again().tomorrow(1), 200);
    due("tomorrow(2) of three", two.again().tomorrow(2), 100);
    holds(15, MATCH);
    refused(two.does(x -> x.mend(0, LOST, 2)), "tomorrow(1), as nobody may judge", x -> x.tomorrow(1), NOT);
    onlyAnswers(15, "tomorrow(0)", x -> x.tomorrow(0));
  }
}
