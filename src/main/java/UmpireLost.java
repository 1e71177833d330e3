/**
 * The umpire's whoever lost yesterday: players, matches, days, results, stools and shelves.
 * README.md tells how it is used; the project's document tells what each call answers.
 */
public final class UmpireLost {
  public static final int BAD = -1, NOT = -2, FULL = -3, STATE = -5, VOID = -2000000000;

  private static final int NOTHING_THERE = -11, OTHER_KIND = -12, NO_PLACE = -13, SIZE_BELOW_ZERO = -14;
  private static final int MOST_PLAYERS = 10, MOST_BYTES = 120, MOST_ELEMENTS = 60, MOST_SHELVES = 6;
  private static final int MOST_SKILL = 9, MOST_GRUDGE = 99, MOST_LOST = 255, MOST_TODAY = 3, MOST_DAY = 99;
  private static final int SKILL = 0, GRUDGE = 1, LOST = 2, TODAY = 3, DAY = 4, SEED = 5;
  private static final int MATCHES = 0, WON = 1, LEMONADE = 2, DAYS = 3, LOSERS = 4, LED_NUMBERS = 5;
  private static final int PLAYED = 1, BEATEN = 2;
  private static final int TWELVE = 12, EVEN_ODDS = 6, SIP = 20;
  private static final int BYTES = 0, SHORTS = 1, INTS = 2, LONGS = 3, BOOLEANS = 4;
  private static final int HOLDS_NOTHING = -1, HOLDS_STOOL = 5;

  private final Yard yard = new Yard();
  private final Yard kept = new Yard();
  private boolean hasImage = false;
  private final Law text = new Law();
  private final Season trial = new Season();
  private final Results table = new Results();
  private final Turns turns = new Turns();
  private final Changes changes = new Changes();
  private final Stools stools = new Stools();
  private final Shelf[] shelves = new Shelf[MOST_SHELVES];

  public UmpireLost() {
    for (int i = 0; i < shelves.length; i++) {
      shelves[i] = new Shelf();
    }
  }

  // ---- players

  public int player(int skill) {
    return isWithin(SKILL, skill) ? yard.join(skill, 0, 0) : BAD;
  }

  public int players(int shelf, int i, int n) {
    if (!isShelf(shelf) || n < 1 || n > MOST_PLAYERS) {
      return BAD;
    }
    Shelf from = shelves[shelf];
    if (from.holds != SHORTS) {
      return from.holds == HOLDS_NOTHING ? 0 : OTHER_KIND;
    }
    int came = 0;
    while (came < n && i >= 0 && i <= from.length - 3 && !yard.isFull()) {
      int skill = (int) from.valueAt(i), grudge = (int) from.valueAt(i + 1), lost = (int) from.valueAt(i + 2);
      if (!isWithin(SKILL, skill) || !isWithin(GRUDGE, grudge) || !isWithin(LOST, lost)) {
        break;
      }
      yard.join(skill, grudge, lost);
      came++;
      i += 3;
    }
    return came;
  }

  public int mend(int number, int what, int v) {
    if (!isNumber(number, what) || !isWithin(what, v)) {
      return VOID;
    }
    int was = yard.numberOf(number, what);
    if (was != v) {
      changes.remember(number, what, was, v);
      yard.become(number, what, v);
    }
    return was;
  }

  public int of(int number, int what) {
    return isNumber(number, what) ? yard.numberOf(number, what) : VOID;
  }

  public int feed(int letter) {
    if (letter < 0 || letter > 255) {
      return BAD;
    }
    return text.append(letter) ? text.length : FULL;
  }

  public int law() {
    int fault = text.adopt();
    return fault < 0 ? 1 : -100 - fault;
  }

  public int odds(int abu) {
    return isThree(abu) ? text.oddsOn(yard, abu / 100, abu / 10 % 10, abu % 10) : BAD;
  }

  public int judges() {
    return yard.judgeBits();
  }

  public int bestJudge(int ab) {
    int one = ab / 10, other = ab % 10;
    if (!yard.has(one) || !yard.has(other) || one == other) {
      return BAD;
    }
    int best = NOT, most = -1;
    for (int umpire = 0; umpire < yard.players; umpire++) {
      if (umpire == one || umpire == other || !yard.mayJudge(umpire)) {
        continue;
      }
      int wins = text.oddsOn(yard, one, other, umpire);
      if (wins > most) {
        most = wins;
        best = umpire;
      }
    }
    return best;
  }

  // ---- cards

  public int held(int shelf) {
    int refusal = bytesRefusal(shelf);
    if (refusal != 0) {
      return refusal;
    }
    trial.begin(yard);
    trial.holdCard(shelves[shelf], text, false);
    return trial.matches;
  }

  public int loses(int shelf) {
    int refusal = bytesRefusal(shelf);
    if (refusal != 0) {
      return refusal;
    }
    trial.begin(yard);
    trial.holdCard(shelves[shelf], text, false);
    return trial.loserBits;
  }

  public int behind(int shelf, int n, int one, int what) {
    boolean ofOne = what == 0 || what == 1;
    boolean ofAll = what == 2 || what == 3;
    if (!isShelf(shelf) || n < 0 || n > 20 || !(ofOne && yard.has(one) || ofAll && one == 0)) {
      return BAD;
    }
    int refusal = bytesRefusal(shelf);
    if (refusal != 0) {
      return refusal;
    }
    trial.begin(yard);
    trial.goThrough(n, shelves[shelf], text, false);
    switch (what) {
      case 0: return trial.yard.lost[one];
      case 1: return trial.yard.grudge[one];
      case 2: return trial.yard.judgeBits();
      default: return trial.matches;
    }
  }

  public int atOnce(int k) {
    if (k < -1) {
      return BAD;
    }
    int free = yard.freeBits();
    int most = yard.mostAtOnce(free);
    if (k == -1) {
      return most;
    }
    if (k >= most) {
      return NOT;
    }
    int found = NOT;
    for (int i = 0; i <= k && i < most; i++) {
      found = yard.firstAtOnce(free, most - i);
      if (found < 0) {
        return NOT;
      }
      free &= ~(1 << found / 100 | 1 << found / 10 % 10 | 1 << found % 10);
    }
    return found;
  }

  public int tomorrow(int one) {
    if (!yard.has(one)) {
      return BAD;
    }
    int found = NOT, least = TWELVE + 1;
    for (int other = 0; other < yard.players; other++) {
      for (int umpire = 0; umpire < yard.players; umpire++) {
        if (!yard.canHold(one, other, umpire)) {
          continue;
        }
        int wins = text.oddsOn(yard, one, other, umpire);
        if (wins < least) {
          least = wins;
          found = 100 * other + umpire;
        }
      }
    }
    return found;
  }

  // ---- results, what was thrown

  public int order(int shelf, int k) {
    if (!isShelf(shelf) || k < -1) {
      return BAD;
    }
    int refusal = bytesRefusal(shelf);
    if (refusal != 0) {
      return refusal;
    }
    if (k >= yard.players) {
      return NOT;
    }
    table.read(shelves[shelf], yard);
    table.weigh();
    return k == -1 ? table.fewestUpset() : table.inOrder(k);
  }

  public int ring(int shelf) {
    int refusal = bytesRefusal(shelf);
    if (refusal != 0) {
      return refusal;
    }
    table.read(shelves[shelf], yard);
    int size = table.smallestRing();
    return size == 0 ? NOT : size;
  }

  public long thrownBy(int shelf, int abu, int part) {
    if (bytesRefusal(shelf) != 0 || !isThree(abu) || !isPart(part)) {
      return Long.MIN_VALUE;
    }
    int wins = text.oddsOn(yard, abu / 100, abu / 10 % 10, abu % 10);
    Shelf told = shelves[shelf];
    long thrown = 1, fair = 1;
    for (int i = 0; i < told.length && i < 8; i++) {
      long result = told.valueAt(i);
      if (result != 0 && result != 1) {
        break;
      }
      thrown *= result == 1 ? 1 : TWELVE - 1;
      fair *= result == 1 ? wins : TWELVE - wins;
    }
    return lowest(thrown, thrown + fair, part);
  }

  public int three() {
    int bits = 0;
    for (int one = 0; one < yard.players; one++) {
      int lost = yard.lost[one];
      if ((lost & lost >> 1 & lost >> 2) != 0) {
        bits |= 1 << one;
      }
    }
    return bits;
  }

  public long streak(int abu, int k, int part) {
    if (!isThree(abu) || k < 0 || k > 6 || !isPart(part)) {
      return Long.MIN_VALUE;
    }
    int losing = TWELVE - text.oddsOn(yard, abu / 100, abu / 10 % 10, abu % 10);
    long above = 1, below = 1;
    for (int i = 0; i < k; i++) {
      above *= losing;
      below *= TWELVE;
    }
    return lowest(above, below, part);
  }

  public int byTurns(int abu, int n, int what) {
    if (!isThree(abu) || n < 1 || n > 5 || what != 0 && what != 1) {
      return BAD;
    }
    turns.begin(abu, yard);
    return what == 0 ? turns.bestOdds(n, text) : turns.bestFirst(n, text);
  }

  public int drawn(int seed, int shelf, int nm, int one) {
    int seasons = nm / 100, days = nm % 100;
    if (!isShelf(shelf) || seasons < 1 || seasons > 30 || days < 1 || days > 20 || one != -1 && !yard.has(one)) {
      return BAD;
    }
    int refusal = bytesRefusal(shelf);
    if (refusal != 0) {
      return refusal;
    }
    trial.begin(yard);
    trial.yard.seed = seed;
    for (int i = 0; i < seasons; i++) {
      trial.beginAnew(yard);
      trial.goThrough(days, shelves[shelf], text, true);
    }
    return one == -1 ? trial.matches : trial.wins[one];
  }

  // ---- in deed

  public int match(int abu) {
    if (!isThree(abu)) {
      return BAD;
    }
    int one = abu / 100, other = abu / 10 % 10, umpire = abu % 10;
    if (!yard.canHold(one, other, umpire)) {
      return STATE;
    }
    boolean oneWins = yard.draw() < text.oddsOn(yard, one, other, umpire);
    yard.settle(oneWins ? one : other, oneWins ? other : one, umpire);
    yard.led[MATCHES]++;
    yard.led[WON] += oneWins ? 1 : 0;
    return oneWins ? 1 : 0;
  }

  public int lemonade(int one) {
    if (!yard.has(one)) {
      return BAD;
    }
    yard.grudge[one] = Math.max(0, yard.grudge[one] - SIP);
    yard.led[LEMONADE]++;
    return yard.grudge[one];
  }

  public int day() {
    yard.led[LOSERS] += yard.countBeaten();
    yard.led[DAYS]++;
    yard.endDay();
    return yard.judgeBits();
  }

  public int led(int what) {
    return what >= 0 && what < LED_NUMBERS ? yard.led[what] : BAD;
  }

  public int image() {
    kept.copyAll(yard);
    hasImage = true;
    return yard.led[MATCHES];
  }

  public int back() {
    if (!hasImage) {
      return STATE;
    }
    yard.layBack(kept);
    return yard.led[MATCHES];
  }

  public int undo() {
    if (changes.done == 0) {
      return STATE;
    }
    changes.undoOn(yard);
    return changes.done;
  }

  public int redo() {
    if (changes.undone == 0) {
      return STATE;
    }
    changes.redoOn(yard);
    return changes.undone;
  }

  // ---- acts, shelves

  public int body(int kind) {
    return Stools.isKind(kind) ? stools.add(kind) : BAD;
  }

  public int act(int body, int act, int x) {
    return stools.perform(body, act, x);
  }

  public int trace(int i) {
    return stools.tracedAt(i);
  }

  public int keep(int shelf, int body) {
    if (!isShelf(shelf) || body != -1 && !stools.has(body)) {
      return BAD;
    }
    shelves[shelf].holdStool(body);
    return 1;
  }

  public int row(int shelf, int sort, int n) {
    if (!isShelf(shelf) || sort < BYTES || sort > BOOLEANS || n > MOST_ELEMENTS) {
      return BAD;
    }
    if (n < 0) {
      return SIZE_BELOW_ZERO;
    }
    shelves[shelf].holdRow(sort, n);
    return 1;
  }

  public int put(int shelf, int i, long v) {
    int refusal = placeRefusal(shelf, i);
    if (refusal != 0) {
      return refusal;
    }
    shelves[shelf].setAt(i, v);
    return 1;
  }

  public long element(int shelf, int i) {
    return placeRefusal(shelf, i) != 0 ? Long.MIN_VALUE : shelves[shelf].valueAt(i);
  }

  public int shift(int shelf, int i, int other, int j, int n) {
    if (!isShelf(shelf) || !isShelf(other)) {
      return BAD;
    }
    Shelf from = shelves[shelf], to = shelves[other];
    if (from.holds == HOLDS_NOTHING || to.holds == HOLDS_NOTHING) {
      return NOTHING_THERE;
    }
    if (!from.holdsRow() || from.holds != to.holds) {
      return OTHER_KIND;
    }
    if (!from.hasPlaces(i, n) || !to.hasPlaces(j, n)) {
      return NO_PLACE;
    }
    System.arraycopy(from.elements, i, to.elements, j, n);
    return n;
  }

  public int taken(int shelf, int k) {
    if (!isShelf(shelf) || !Stools.isKind(k)) {
      return BAD;
    }
    Shelf taken = shelves[shelf];
    if (taken.holds == HOLDS_NOTHING) {
      return NOTHING_THERE;
    }
    if (taken.holds != HOLDS_STOOL || !stools.has(taken.stool)) {
      return OTHER_KIND;
    }
    int kind = stools.kinds[taken.stool];
    return Stools.isUnder(kind, k) ? kind : OTHER_KIND;
  }

  public int count(int what) {
    switch (what) {
      case 0: return yard.players;
      case 1: return Integer.bitCount(yard.judgeBits());
      case 2: return text.length;
      case 3: return changes.done;
      case 4: return stools.size;
      case 5: return stools.ran;
      default: return BAD;
    }
  }

  // ---- what several calls ask

  private static boolean isShelf(int shelf) {
    return shelf >= 0 && shelf < MOST_SHELVES;
  }

  private static boolean isPart(int part) {
    return part == 0 || part == 1;
  }

  private boolean isThree(int abu) {
    return abu >= 0 && abu <= 999 && yard.areUnlike(abu / 100, abu / 10 % 10, abu % 10);
  }

  private boolean isNumber(int number, int what) {
    if (what == DAY || what == SEED) {
      return number == 0;
    }
    return what >= SKILL && what <= TODAY && yard.has(number);
  }

  private static boolean isWithin(int what, int v) {
    switch (what) {
      case SKILL: return v >= 0 && v <= MOST_SKILL;
      case GRUDGE: return v >= 0 && v <= MOST_GRUDGE;
      case LOST: return v >= 0 && v <= MOST_LOST;
      case TODAY: return v >= 0 && v <= MOST_TODAY;
      case DAY: return v >= 0 && v <= MOST_DAY;
      default: return what == SEED;
    }
  }

  /** 0 if the shelf holds a row of bytes, else what is answered. */
  private int bytesRefusal(int shelf) {
    if (!isShelf(shelf)) {
      return BAD;
    }
    int holds = shelves[shelf].holds;
    if (holds == HOLDS_NOTHING) {
      return NOTHING_THERE;
    }
    return holds == BYTES ? 0 : OTHER_KIND;
  }

  /** 0 if the shelf holds a row, of any sort, that has the place, else what is answered. */
  private int placeRefusal(int shelf, int i) {
    if (!isShelf(shelf)) {
      return BAD;
    }
    Shelf row = shelves[shelf];
    if (row.holds == HOLDS_NOTHING) {
      return NOTHING_THERE;
    }
    if (!row.holdsRow()) {
      return OTHER_KIND;
    }
    return row.hasPlaces(i, 1) ? 0 : NO_PLACE;
  }

  /** A part of a fraction in lowest terms; one without anything below the line counts as 0 by 1. */
  private static long lowest(long above, long below, int part) {
    if (below <= 0 || above < 0) {
      return part;
    }
    long divisor = below, rest = above;
    for (int step = 0; step < 100 && rest != 0; step++) {
      long next = divisor % rest;
      divisor = rest;
      rest = next;
    }
    return (part == 0 ? above : below) / Math.max(1, divisor);
  }

  /** The players and the day as they stand: in truth, in the image, or on trial. */
  private static final class Yard {
    int players = 0;
    final int[] skill = new int[MOST_PLAYERS];
    final int[] grudge = new int[MOST_PLAYERS];
    final int[] lost = new int[MOST_PLAYERS];
    final int[] today = new int[MOST_PLAYERS];
    int day = 0;
    int seed = 1;
    final int[] led = new int[LED_NUMBERS];

    boolean has(int one) {
      return one >= 0 && one < players;
    }

    boolean isFull() {
      return players >= MOST_PLAYERS;
    }

    boolean areUnlike(int one, int other, int umpire) {
      return has(one) && has(other) && has(umpire) && one != other && one != umpire && other != umpire;
    }

    int join(int withSkill, int withGrudge, int withLost) {
      if (isFull()) {
        return FULL;
      }
      skill[players] = withSkill;
      grudge[players] = withGrudge;
      lost[players] = withLost;
      today[players] = 0;
      return players++;
    }

    int numberOf(int one, int what) {
      if (what == DAY || what == SEED) {
        return what == DAY ? day : seed;
      }
      if (!has(one)) {
        return VOID;
      }
      switch (what) {
        case SKILL: return skill[one];
        case GRUDGE: return grudge[one];
        case LOST: return lost[one];
        default: return today[one];
      }
    }

    void become(int one, int what, int v) {
      if (what == DAY) {
        day = v;
      } else if (what == SEED) {
        seed = v;
      } else if (has(one)) {
        switch (what) {
          case SKILL: skill[one] = v; break;
          case GRUDGE: grudge[one] = v; break;
          case LOST: lost[one] = v; break;
          default: today[one] = v; break;
        }
      }
    }

    boolean mayJudge(int one) {
      return (lost[one] & 1) != 0;
    }

    boolean isFree(int one) {
      return (today[one] & PLAYED) == 0;
    }

    int judgeBits() {
      int bits = 0;
      for (int one = 0; one < players; one++) {
        bits |= mayJudge(one) ? 1 << one : 0;
      }
      return bits;
    }

    int freeBits() {
      int bits = 0;
      for (int one = 0; one < players; one++) {
        bits |= isFree(one) ? 1 << one : 0;
      }
      return bits;
    }

    boolean canHold(int one, int other, int umpire) {
      return areUnlike(one, other, umpire) && mayJudge(umpire) && isFree(one) && isFree(other) && isFree(umpire);
    }

    /** Any two may play, so only umpires and heads can be too few. */
    int mostAtOnce(int free) {
      return Math.min(Integer.bitCount(free & judgeBits()), Integer.bitCount(free) / 3);
    }

    /** The first match among the free behind which there is still room for all the others that are wanted. */
    int firstAtOnce(int free, int wanted) {
      for (int one = 0; one < players; one++) {
        for (int other = one + 1; other < players; other++) {
          for (int umpire = 0; umpire < players; umpire++) {
            int bits = 1 << one | 1 << other | 1 << umpire;
            if ((bits & ~free) == 0 && canHold(one, other, umpire) && mostAtOnce(free & ~bits) >= wanted - 1) {
              return 100 * one + 10 * other + umpire;
            }
          }
        }
      }
      return NOT;
    }

    int draw() {
      seed = seed * 1103515245 + 12345;
      return (seed >>> 8) % TWELVE;
    }

    void settle(int winner, int loser, int umpire) {
      today[winner] |= PLAYED;
      today[loser] |= PLAYED | BEATEN;
      today[umpire] |= PLAYED;
    }

    int countBeaten() {
      int beaten = 0;
      for (int one = 0; one < players; one++) {
        beaten += (today[one] & BEATEN) != 0 ? 1 : 0;
      }
      return beaten;
    }

    void endDay() {
      for (int one = 0; one < players; one++) {
        boolean beaten = (today[one] & BEATEN) != 0;
        lost[one] = (2 * lost[one] + (beaten ? 1 : 0)) & MOST_LOST;
        grudge[one] = beaten ? Math.min(MOST_GRUDGE, grudge[one] + 3) : Math.max(0, grudge[one] - 1);
        today[one] = 0;
      }
      day = Math.min(MOST_DAY, day + 1);
    }

    void copyAll(Yard from) {
      players = from.players;
      System.arraycopy(from.skill, 0, skill, 0, MOST_PLAYERS);
      layBack(from);
    }

    /** Skills stay, and so do players whom the image does not know. */
    void layBack(Yard image) {
      int known = Math.min(players, image.players);
      System.arraycopy(image.grudge, 0, grudge, 0, known);
      System.arraycopy(image.lost, 0, lost, 0, known);
      System.arraycopy(image.today, 0, today, 0, known);
      System.arraycopy(image.led, 0, led, 0, LED_NUMBERS);
      day = image.day;
      seed = image.seed;
    }
  }

  /** The tape, and the law as it is worked out: its operands first, then what joins them. */
  private static final class Law {
    private static final int MOST_OPEN = 6, MOST_DIGITS = 4, COMPARING = 2, FACTORS = 4;
    /** A sign that no text holds: the minus ahead of one operand. */
    private static final int NEGATE = '_';

    final int[] tape = new int[MOST_BYTES];
    int length = 0;
    private int at = 0;
    private int[] code = new int[MOST_BYTES + 1];
    private int size = 0;
    private int[] draft = new int[MOST_BYTES + 1];
    private int drafted = 0;
    private final int[] stack = new int[MOST_BYTES + 1];
    private int top = 0;

    boolean append(int letter) {
      if (length >= MOST_BYTES) {
        return false;
      }
      tape[length++] = letter;
      return true;
    }

    /** The tape becomes the law if it is one, and is empty: its fault, or -1. */
    int adopt() {
      at = 0;
      drafted = 0;
      boolean isLaw = readLines();
      length = 0;
      if (!isLaw) {
        return at;
      }
      int[] former = code;
      code = draft;
      draft = former;
      size = drafted;
      return -1;
    }

    private int next() {
      return at < length ? tape[at] : -1;
    }

    /** Numbers are 0 or more, signs are told below 0. */
    private void write(int entry) {
      if (drafted < draft.length) {
        draft[drafted++] = entry;
      }
    }

    private boolean readLines() {
      for (int line = 0; line < MOST_BYTES; line++) {
        if (!readLine()) {
          return false;
        }
        if (next() != ';') {
          return at == length;
        }
        at++;
      }
      return false;
    }

    private boolean readLine() {
      if (!readLevel(0, 0)) {
        return false;
      }
      if (next() == '?') {
        at++;
        write(-'?');
        if (!readLevel(0, 0)) {
          return false;
        }
      }
      write(-';');
      return true;
    }

    private static int levelOf(int sign) {
      switch (sign) {
        case '|': return 0;
        case '&': return 1;
        case '<': case '=': case '>': return COMPARING;
        case '+': case '-': return 3;
        case '*': case '/': case '%': return FACTORS;
        default: return -1;
      }
    }

    /** The levels bind from | (0) to * / % (4); the depth is held low by how many may be open. */
    private boolean readLevel(int level, int open) {
      if (level > FACTORS) {
        return readOperand(open);
      }
      if (!readLevel(level + 1, open)) {
        return false;
      }
      for (int i = 0; i < MOST_BYTES && levelOf(next()) == level; i++) {
        int sign = next();
        at++;
        if (!readLevel(level + 1, open)) {
          return false;
        }
        write(-sign);
        if (level == COMPARING) {
          return true;
        }
      }
      return true;
    }

    private boolean readOperand(int open) {
      int sign = next();
      if (isDigit(sign)) {
        readNumber();
        return true;
      }
      if (isName(sign)) {
        at++;
        write(-sign);
        return true;
      }
      if (sign != '(' && sign != '!' && sign != '-' || open >= MOST_OPEN) {
        return false;
      }
      at++;
      if (sign == '(') {
        if (!readLevel(0, open + 1) || next() != ')') {
          return false;
        }
        at++;
        return true;
      }
      if (!readOperand(open + 1)) {
        return false;
      }
      write(sign == '!' ? -'!' : -NEGATE);
      return true;
    }

    private void readNumber() {
      int number = 0;
      for (int i = 0; i < MOST_DIGITS && isDigit(next()); i++) {
        number = 10 * number + next() - '0';
        at++;
      }
      write(number);
    }

    private static boolean isDigit(int sign) {
      return sign >= '0' && sign <= '9';
    }

    private static boolean isName(int sign) {
      return sign == 'a' || sign == 'b' || sign == 'g' || sign == 'l' || sign == 'm' || sign == 'd';
    }

    /** Of how many of twelve the one wins; only of three unlike players. */
    int oddsOn(Yard yard, int one, int other, int umpire) {
      if (!yard.areUnlike(one, other, umpire)) {
        return 0;
      }
      int wins = size == 0 ? withoutText(yard, one, other, umpire) : byText(yard, one, other, umpire);
      return Math.max(0, Math.min(TWELVE, wins));
    }

    private static int withoutText(Yard yard, int one, int other, int umpire) {
      int daysLost = Integer.bitCount(yard.lost[one]);
      return EVEN_ODDS + yard.skill[one] - yard.skill[other] + yard.grudge[umpire] / SIP - daysLost / 2;
    }

    private int byText(Yard yard, int one, int other, int umpire) {
      top = 0;
      boolean passing = false;
      for (int i = 0; i < size; i++) {
        int entry = code[i];
        if (passing) {
          passing = entry != -';';
        } else if (entry >= 0) {
          push(entry);
        } else if (entry == -'?') {
          passing = pop() == 0;
        } else if (entry == -';') {
          return pop();
        } else if (isName(-entry)) {
          push(named(-entry, yard, one, other, umpire));
        } else {
          join(-entry);
        }
      }
      return 0;
    }

    private static int named(int name, Yard yard, int one, int other, int umpire) {
      switch (name) {
        case 'a': return yard.skill[one];
        case 'b': return yard.skill[other];
        case 'g': return yard.grudge[umpire];
        case 'l': return Integer.bitCount(yard.lost[umpire]);
        case 'm': return Integer.bitCount(yard.lost[one]);
        default: return yard.day;
      }
    }

    private void push(int v) {
      if (top < stack.length) {
        stack[top++] = v;
      }
    }

    private int pop() {
      return top > 0 ? stack[--top] : 0;
    }

    private void join(int sign) {
      int right = pop();
      if (sign == '!') {
        push(right == 0 ? 1 : 0);
      } else if (sign == NEGATE) {
        push(-right);
      } else {
        push(joined(sign, pop(), right));
      }
    }

    private static int joined(int sign, int left, int right) {
      switch (sign) {
        case '|': return left != 0 || right != 0 ? 1 : 0;
        case '&': return left != 0 && right != 0 ? 1 : 0;
        case '<': return left < right ? 1 : 0;
        case '=': return left == right ? 1 : 0;
        case '>': return left > right ? 1 : 0;
        case '+': return left + right;
        case '-': return left - right;
        case '*': return left * right;
        case '/': return right == 0 ? 0 : left / right;
        default: return right == 0 ? 0 : left % right;
      }
    }
  }

  /** Days of a card, gone through on a yard that is there for trials alone. */
  private static final class Season {
    private static final int MOST_THREES = 8;

    final Yard yard = new Yard();
    final int[] wins = new int[MOST_PLAYERS];
    int matches = 0;
    int loserBits = 0;

    void begin(Yard now) {
      yard.copyAll(now);
      matches = 0;
      loserBits = 0;
      for (int one = 0; one < MOST_PLAYERS; one++) {
        wins[one] = 0;
      }
    }

    /** Another season from now on: what was counted and the seed go on. */
    void beginAnew(Yard now) {
      int seed = yard.seed;
      yard.copyAll(now);
      yard.seed = seed;
    }

    void goThrough(int days, Shelf card, Law law, boolean byDraws) {
      for (int i = 0; i < days; i++) {
        holdCard(card, law, byDraws);
        yard.endDay();
      }
    }

    void holdCard(Shelf card, Law law, boolean byDraws) {
      for (int i = 0; i < 3 * MOST_THREES && i + 3 <= card.length; i += 3) {
        int one = (int) card.valueAt(i), other = (int) card.valueAt(i + 1), umpire = (int) card.valueAt(i + 2);
        if (!yard.canHold(one, other, umpire)) {
          return;
        }
        int odds = law.oddsOn(yard, one, other, umpire);
        boolean oneWins = byDraws ? yard.draw() < odds : odds >= EVEN_ODDS;
        settle(oneWins ? one : other, oneWins ? other : one, umpire);
      }
    }

    private void settle(int winner, int loser, int umpire) {
      yard.settle(winner, loser, umpire);
      wins[winner]++;
      loserBits |= 1 << loser;
      matches++;
    }
  }

  /** Who won against whom, and the orders and rings that follow. */
  private static final class Results {
    private static final int MOST_TWOS = 20;
    /** Enough for 20 results: so the counts of ten losers stand side by side in one long. */
    private static final int COUNT_BITS = 6, COUNT_MASK = 63;

    private int players = 0;
    private final int[] beats = new int[MOST_PLAYERS];
    private final long[] winsOf = new long[MOST_PLAYERS];
    private final long[] winsOfGroup = new long[1 << MOST_PLAYERS];
    private final int[] fewest = new int[1 << MOST_PLAYERS];

    void read(Shelf row, Yard yard) {
      players = yard.players;
      for (int one = 0; one < MOST_PLAYERS; one++) {
        beats[one] = 0;
        winsOf[one] = 0;
      }
      for (int i = 0; i < 2 * MOST_TWOS && i + 2 <= row.length; i += 2) {
        int winner = (int) row.valueAt(i), loser = (int) row.valueAt(i + 1);
        if (yard.has(winner) && yard.has(loser) && winner != loser) {
          beats[winner] |= 1 << loser;
          winsOf[winner] += 1L << COUNT_BITS * loser;
        }
      }
    }

    /** How few results any order of a group upsets, for each group of players, smaller ones first. */
    void weigh() {
      winsOfGroup[0] = 0;
      fewest[0] = 0;
      for (int last = 0; last < players; last++) {
        for (int rest = 0; rest < 1 << last; rest++) {
          int group = rest | 1 << last;
          winsOfGroup[group] = winsOfGroup[rest] + winsOf[last];
          fewest[group] = fewestOf(group);
        }
      }
    }

    private int fewestOf(int group) {
      int least = Integer.MAX_VALUE;
      for (int one = 0; one < players; one++) {
        if ((group & 1 << one) != 0) {
          least = Math.min(least, upsetLedBy(one, group));
        }
      }
      return least;
    }

    /** One ahead of the rest of a group upsets whatever these won against him. */
    private int upsetLedBy(int one, int group) {
      int upset = (int) (winsOfGroup[group] >>> COUNT_BITS * one) & COUNT_MASK;
      return upset + fewest[group & ~(1 << one)];
    }

    int fewestUpset() {
      return fewest[(1 << players) - 1];
    }

    int inOrder(int k) {
      int group = (1 << players) - 1;
      int leader = NOT;
      for (int i = 0; i <= k && i < players; i++) {
        leader = leaderOf(group);
        group &= ~(1 << leader);
      }
      return leader;
    }

    private int leaderOf(int group) {
      int leader = 0;
      for (int one = 0; one < players; one++) {
        if ((group & 1 << one) != 0 && upsetLedBy(one, group) == fewest[group]) {
          leader = one;
          break;
        }
      }
      return leader;
    }

    /** 0 if there is no ring. */
    int smallestRing() {
      int smallest = 0;
      for (int one = 0; one < players; one++) {
        int size = ringThrough(one);
        if (size != 0 && (smallest == 0 || size < smallest)) {
          smallest = size;
        }
      }
      return smallest;
    }

    private int ringThrough(int one) {
      int reached = beats[one];
      for (int size = 1; size <= players; size++) {
        if ((reached & 1 << one) != 0) {
          return size;
        }
        reached = beatenBy(reached);
      }
      return 0;
    }

    private int beatenBy(int group) {
      int beaten = 0;
      for (int one = 0; one < players; one++) {
        beaten |= (group & 1 << one) != 0 ? beats[one] : 0;
      }
      return beaten;
    }
  }

  /** Lemonade and chalk by turns: both look ahead to the last turn. */
  private static final class Turns {
    private static final int CHALK = 1, NOTHING = 2, MOVES = 3, MOST_TURNS = 5, UNKNOWN = -1;
    private static final int[] FIRST_LIKED = {NOTHING, 0, CHALK};

    private final Yard yard = new Yard();
    private int abu = 0;
    private int grudge = 0;
    private final int[] oddsBy = new int[MOST_GRUDGE + 1];

    /** The umpire's grudge is tried out on a yard that is there for this alone. */
    void begin(int match, Yard now) {
      yard.copyAll(now);
      abu = match;
      grudge = yard.numberOf(match % 10, GRUDGE);
      for (int i = 0; i < oddsBy.length; i++) {
        oddsBy[i] = UNKNOWN;
      }
    }

    int bestFirst(int turns, Law law) {
      int best = NOTHING, most = -1;
      for (int i = 0; i < MOVES; i++) {
        int odds = best(moved(grudge, FIRST_LIKED[i]), turns - 1, false, law);
        if (odds > most) {
          most = odds;
          best = FIRST_LIKED[i];
        }
      }
      return best;
    }

    int bestOdds(int turns, Law law) {
      return best(grudge, turns, true, law);
    }

    private int best(int from, int turns, boolean onesTurn, Law law) {
      if (turns <= 0 || turns > MOST_TURNS) {
        return oddsAt(from, law);
      }
      int best = onesTurn ? 0 : TWELVE;
      for (int move = 0; move < MOVES; move++) {
        int odds = best(moved(from, move), turns - 1, !onesTurn, law);
        best = onesTurn ? Math.max(best, odds) : Math.min(best, odds);
      }
      return best;
    }

    private static int moved(int from, int move) {
      if (move == NOTHING) {
        return from;
      }
      return move == CHALK ? Math.min(MOST_GRUDGE, from + SIP) : Math.max(0, from - SIP);
    }

    /** Few grudges come up, each of them often. */
    private int oddsAt(int umpiresGrudge, Law law) {
      if (umpiresGrudge < 0 || umpiresGrudge >= oddsBy.length) {
        return 0;
      }
      if (oddsBy[umpiresGrudge] == UNKNOWN) {
        yard.become(abu % 10, GRUDGE, umpiresGrudge);
        oddsBy[umpiresGrudge] = law.oddsOn(yard, abu / 100, abu / 10 % 10, abu % 10);
      }
      return oddsBy[umpiresGrudge];
    }
  }

  /** Changes of mend(): the done ones from 0 on, behind them those that were undone. */
  private static final class Changes {
    private static final int MOST_CHANGES = 40;

    private final int[] number = new int[MOST_CHANGES];
    private final int[] what = new int[MOST_CHANGES];
    private final int[] was = new int[MOST_CHANGES];
    private final int[] became = new int[MOST_CHANGES];
    int done = 0;
    int undone = 0;

    void remember(int ofNumber, int ofWhat, int before, int behind) {
      if (done >= MOST_CHANGES) {
        forgetOldest();
      }
      number[done] = ofNumber;
      what[done] = ofWhat;
      was[done] = before;
      became[done] = behind;
      done++;
      undone = 0;
    }

    private void forgetOldest() {
      int last = MOST_CHANGES - 1;
      System.arraycopy(number, 1, number, 0, last);
      System.arraycopy(what, 1, what, 0, last);
      System.arraycopy(was, 1, was, 0, last);
      System.arraycopy(became, 1, became, 0, last);
      done = last;
    }

    void undoOn(Yard yard) {
      if (done > 0) {
        done--;
        undone++;
        yard.become(number[done], what[done], was[done]);
      }
    }

    void redoOn(Yard yard) {
      if (undone > 0 && done < MOST_CHANGES) {
        yard.become(number[done], what[done], became[done]);
        done++;
        undone--;
      }
    }
  }

  /** What a shelf holds: nothing, a stool, or a row whose elements stand as longs, cut to their sort. */
  private static final class Shelf {
    int holds = HOLDS_NOTHING;
    int stool = -1;
    int length = 0;
    final long[] elements = new long[MOST_ELEMENTS];

    void holdStool(int body) {
      holds = body < 0 ? HOLDS_NOTHING : HOLDS_STOOL;
      stool = body;
      length = 0;
    }

    void holdRow(int sort, int n) {
      holds = sort;
      stool = -1;
      length = n;
      for (int i = 0; i < MOST_ELEMENTS; i++) {
        elements[i] = 0;
      }
    }

    boolean holdsRow() {
      return holds >= BYTES && holds <= BOOLEANS;
    }

    boolean hasPlaces(int i, int n) {
      return i >= 0 && n >= 0 && i <= length - n;
    }

    long valueAt(int i) {
      return hasPlaces(i, 1) ? elements[i] : 0;
    }

    void setAt(int i, long v) {
      if (hasPlaces(i, 1)) {
        elements[i] = cut(v);
      }
    }

    private long cut(long v) {
      switch (holds) {
        case BYTES: return (byte) v;
        case SHORTS: return (short) v;
        case INTS: return (int) v;
        case LONGS: return v;
        default: return v != 0 ? 1 : 0;
      }
    }
  }

  /** Stools by kinds: what a kind does not do itself comes from above. */
  private static final class Stools {
    private static final int MOST_STOOLS = 50, MOST_TRACED = 24, MOST_DEEP = 40;
    private static final int JUDGES = 0, CALLS = 1, LOSES = 2, TELLS = 3, ACTS = 4, KINDS = 8;
    /** The kind above each kind. */
    private static final int[] ABOVE = {-1, 0, 0, 2, 1, 3, 0, 4};
    /** The bodies of each kind's own acts, 0 where it has none; the stool's own hold the interfaces' too. */
    private static final int[] BODIES = {
      1, 10, 11, 2,
      20, 0, 0, 0,
      0, 30, 0, 0,
      0, 41, 40, 0,
      0, 0, 50, 0,
      0, 0, 0, 60,
      70, 0, 0, 0,
      0, 80, 0, 81,
    };

    final int[] kinds = new int[MOST_STOOLS];
    int size = 0;
    private final int[] traced = new int[MOST_TRACED];
    int ran = 0;
    private int number = 0;

    static boolean isKind(int kind) {
      return kind >= 0 && kind < KINDS;
    }

    static boolean isUnder(int kind, int above) {
      int next = kind;
      for (int i = 0; i < KINDS && isKind(next); i++) {
        if (next == above) {
          return true;
        }
        next = ABOVE[next];
      }
      return false;
    }

    boolean has(int stool) {
      return stool >= 0 && stool < size;
    }

    int add(int kind) {
      if (size >= MOST_STOOLS) {
        return FULL;
      }
      kinds[size] = kind;
      return size++;
    }

    int tracedAt(int i) {
      return i >= 0 && i < ran && i < MOST_TRACED ? traced[i] : BAD;
    }

    int perform(int stool, int act, int x) {
      ran = 0;
      if (!has(stool) || act < 0 || act >= ACTS) {
        return 0;
      }
      number = stool;
      return own(act, x, 0);
    }

    /** The act as the stool's own kind does it. */
    private int own(int act, int x, int depth) {
      return from(kinds[number], act, x, depth);
    }

    /** The act as the next kind does it, from one on, that has a body for it. */
    private int from(int kind, int act, int x, int depth) {
      int next = kind;
      for (int i = 0; i < KINDS && isKind(next); i++) {
        int body = BODIES[ACTS * next + act];
        if (body != 0) {
          return depth < MOST_DEEP ? run(body, ABOVE[next], x, depth + 1) : 0;
        }
        next = ABOVE[next];
      }
      return 0;
    }

    private int run(int body, int above, int x, int depth) {
      if (ran < MOST_TRACED) {
        traced[ran] = body;
      }
      ran++;
      switch (body) {
        case 1: return x + number;
        case 2: return own(CALLS, x, depth) - own(LOSES, 1, depth);
        case 10: return own(JUDGES, x, depth) * 2;
        case 11: return x ^ number;
        case 20: return from(above, JUDGES, x, depth) + 3;
        case 30: return -from(above, CALLS, x, depth);
        case 40: return from(above, LOSES, x, depth) * 3;
        case 41: return from(above, CALLS, x + 1, depth);
        case 50: return from(above, LOSES, x, depth) - own(JUDGES, 2, depth);
        case 60: return from(above, TELLS, x, depth) ^ 5;
        case 70: return from(above, JUDGES, x, depth) * 2;
        case 80: return from(above, CALLS, x, depth) + own(LOSES, 2, depth);
        case 81: return from(above, TELLS, x, depth) - 1;
        default: return 0;
      }
    }
  }
}
