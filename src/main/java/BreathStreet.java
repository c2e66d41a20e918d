/**
 * A street whose ground breathes: fields that rise and sink, houses with a slack, seams that open
 * and close, and a barrel that is rolled home. DOC.md says what every call answers.
 */
public final class BreathStreet {
  public static final int NONE = -1, UNKNOWN = -1000000001, OUTSIDE = -1000000002, NOT = -1000000003, FULL = -1000000004;

  private static final int MOST_LETTERS = 250;
  private static final int MOST_FIELDS = 8;
  private static final int MOST_HOUSES = 4;
  private static final int MOST_SEAMS = 4;
  private static final int MOST_BREATH = 1000000;
  private static final int MOST_STEPS = 900000;
  private static final int MOST_PASSED = 999;
  private static final int MOST_DRIFTED = 99;
  private static final int MOST_UNDONE = 40;
  private static final int MOST_SLACK = 999;
  private static final int MOST_HEIGHT = 999;
  private static final int MOST_FLOWN = 99;
  private static final int MOST_SOON = 200;
  private static final int MOST_HOME = 30;
  private static final int MOST_HEARD = 12;
  private static final int MOST_AGO = 30;
  private static final int MOST_SEEN = 12;
  private static final int MOST_SEEN_BREATH = 9999;
  private static final int LEAST_ROUND = 2;
  private static final int MOST_ROUND = 12;
  private static final int MOST_FLOODED = 40;
  private static final int MOST_CHANCES = 20;
  private static final int MOST_LINES = 30;
  private static final int BILLION = 1000000000;
  private static final int STAYS = 0;
  private static final int WEST = 1;
  private static final int EAST = 2;

  private final Text text = new Text();
  private Street theStreet = new Street();
  private Street spare = new Street();
  private int faultAt = NONE;
  private final Moment now = new Moment();
  private final Trail trail = new Trail();
  private final Image firstImage = new Image();
  private final Image secondImage = new Image();
  private final Home home = new Home();
  private final Cough cough = new Cough();
  private final Sights sights = new Sights();
  private final Book book = new Book();
  private int theSeed = 0;

  public BreathStreet() {
  }

  // ---- the street

  public int feed(int letter) {
    if (isOutside(letter, 0, 255)) {
      return OUTSIDE;
    }
    if (text.length >= MOST_LETTERS) {
      return FULL;
    }
    return text.add(letter);
  }

  public int street() {
    // The text is read into the spare street, so that a fault leaves the present one as it was.
    int kind = text.readInto(spare);
    faultAt = text.faultAt;
    text.length = 0;
    if (kind != 0) {
      return -10 - kind;
    }
    Street former = theStreet;
    theStreet = spare;
    spare = former;
    now.startAt(theStreet.barrelStart());
    trail.count = 0;
    firstImage.kept = false;
    secondImage.kept = false;
    forgetNotes();
    return theStreet.ground.count;
  }

  public int fault() {
    return faultAt;
  }

  public int told(int what) {
    switch (what) {
      case 0: return theStreet.ground.count;
      case 1: return theStreet.houses;
      case 2: return theStreet.seams.count;
      case 3: return text.length;
      case 4: return now.steps;
      case 5: return now.breath;
      case 6: return now.barrel;
      case 7: return now.pulled;
      case 8: return theStreet.ground.wholeRound;
      case 9: return cough.heard;
      case 10: return sights.seen;
      case 11: return book.lines;
      case 12: return trail.count;
      case 13: return theStreet.seams.openSet(now.steps);
      case 14: return theStreet.crackedSet(now.breath);
      default: return OUTSIDE;
    }
  }

  public int field(int f, int what) {
    Ground ground = theStreet.ground;
    if (!ground.has(f)) {
      return UNKNOWN;
    }
    switch (what) {
      case 0: return ground.bases[f];
      case 1: return ground.turns[f];
      case 2: return ground.lates[f];
      case 3: return ground.swings[f];
      case 4: return ground.heightAt(f, now.breath);
      case 5: return ground.leanAt(f, now.breath);
      default: return OUTSIDE;
    }
  }

  public int height(int f, int breath) {
    if (!theStreet.ground.has(f)) {
      return UNKNOWN;
    }
    return isOutside(breath, 0, MOST_BREATH) ? OUTSIDE : theStreet.ground.heightAt(f, breath);
  }

  public int house(int h, int what) {
    if (!theStreet.hasHouse(h)) {
      return UNKNOWN;
    }
    switch (what) {
      case 0: return theStreet.houseFields[h];
      case 1: return theStreet.slacks[h];
      case 2: return theStreet.slackNeeded(h);
      default: return OUTSIDE;
    }
  }

  public int seam(int s, int what) {
    Seams seams = theStreet.seams;
    if (!seams.has(s)) {
      return UNKNOWN;
    }
    switch (what) {
      case 0: return seams.fields[s];
      case 1: return seams.turns[s];
      case 2: return seams.firsts[s];
      case 3: return seams.widths[s];
      default: return OUTSIDE;
    }
  }

  // ---- steps

  public int step(int n) {
    return letPass(n, false);
  }

  public int hold(int n) {
    return letPass(n, true);
  }

  public int roll(int way) {
    if (isOutside(way, STAYS, EAST)) {
      return OUTSIDE;
    }
    if (!now.canGo(theStreet, way)) {
      return NOT;
    }
    if (now.steps + 1 > MOST_STEPS) {
      return FULL;
    }
    trail.note(now);
    return now.go(theStreet, way, false);
  }

  public int slack(int h, int v) {
    if (!theStreet.hasHouse(h)) {
      return UNKNOWN;
    }
    if (isOutside(v, 0, MOST_SLACK)) {
      return OUTSIDE;
    }
    int former = theStreet.slacks[h];
    theStreet.slacks[h] = v;
    return former;
  }

  public int drift(int n) {
    if (isOutside(n, 1, MOST_DRIFTED)) {
      return OUTSIDE;
    }
    if (theStreet.ground.count == 0) {
      return NOT;
    }
    if (now.steps + n > MOST_STEPS) {
      return FULL;
    }
    for (int i = 0; i < n; i++) {
      boolean held = draw(8) == 0;
      int way = draw(3);
      trail.note(now);
      now.go(theStreet, now.canGo(theStreet, way) ? way : STAYS, held);
    }
    return now.barrel;
  }

  public int undo(int n) {
    if (isOutside(n, 1, MOST_UNDONE)) {
      return OUTSIDE;
    }
    if (n > trail.count) {
      return NOT;
    }
    trail.takeBack(now, n);
    return now.steps;
  }

  // ---- tried

  public int cracks(int h) {
    return theStreet.hasHouse(h) ? theStreet.firstCrack(h, now.breath) : UNKNOWN;
  }

  public int worst() {
    return theStreet.neediestHouse();
  }

  public int water(int f, int n) {
    if (!theStreet.ground.has(f)) {
      return UNKNOWN;
    }
    return isOutside(n, 0, MOST_FLOWN) ? OUTSIDE : theStreet.ground.flownTo(f, now.breath, n);
  }

  public int mill(int f, int what) {
    if (!theStreet.ground.hasGap(f)) {
      return UNKNOWN;
    }
    return isOutside(what, 0, 2) ? OUTSIDE : theStreet.ground.milled(f, what);
  }

  public int bestMill() {
    return theStreet.ground.bestGap();
  }

  public int soonest(int from, int to) {
    if (!theStreet.ground.has(from) || !theStreet.ground.has(to)) {
      return UNKNOWN;
    }
    return home.fewestSteps(theStreet, now, from, to);
  }

  public int least(int from, int to, int n, int i) {
    if (!theStreet.ground.has(from) || !theStreet.ground.has(to)) {
      return UNKNOWN;
    }
    if (isOutside(n, 1, MOST_HOME)) {
      return OUTSIDE;
    }
    home.weigh(theStreet, now, to, n);
    return i == NONE ? home.leastPulled(from) : home.leastWay(theStreet, now, from, i);
  }

  public int open(int set) {
    return theStreet.seams.hasAll(set) ? theStreet.seams.waitFor(set, now.steps) : UNKNOWN;
  }

  public int longest(int set) {
    return theStreet.seams.hasAll(set) ? theStreet.seams.longestRun(set) : UNKNOWN;
  }

  // ---- what was heard, seen

  public int hear(int f, int ago) {
    if (!theStreet.ground.has(f)) {
      return UNKNOWN;
    }
    if (isOutside(ago, 0, MOST_AGO)) {
      return OUTSIDE;
    }
    return cough.heard >= MOST_HEARD ? FULL : cough.note(f, ago);
  }

  public int began(int i) {
    int count = cough.gather(theStreet.ground.count);
    if (i == NONE) {
      return count;
    }
    return isOutside(i, 0, count - 1) ? NONE : cough.origins[i];
  }

  public int watch() {
    int fields = theStreet.ground.count;
    return cough.bestWatch(cough.gather(fields), fields);
  }

  public int see(int f, int breath, int height) {
    if (!theStreet.ground.has(f)) {
      return UNKNOWN;
    }
    if (isOutside(breath, 0, MOST_SEEN_BREATH) || isOutside(height, 0, MOST_HEIGHT)) {
      return OUTSIDE;
    }
    return sights.seen >= MOST_SEEN ? FULL : sights.note(f, breath, height);
  }

  public int rounds(int f, int i) {
    if (!theStreet.ground.has(f)) {
      return UNKNOWN;
    }
    return i == NONE ? sights.countTurns(theStreet.ground, f) : sights.findTurn(theStreet.ground, f, i);
  }

  public int cellars(int v, int n) {
    if (isOutside(v, 0, MOST_HEIGHT) || isOutside(n, 1, MOST_FLOODED)) {
      return OUTSIDE;
    }
    return theStreet.ground.flooded(v, now.breath, n);
  }

  public int sluices(int v, int n, int what) {
    if (isOutside(v, 0, MOST_HEIGHT) || isOutside(n, 1, MOST_FLOODED) || isOutside(what, 0, 1)) {
      return OUTSIDE;
    }
    int set = theStreet.ground.fewestSluices(theStreet.ground.flooded(v, now.breath, n));
    if (set == NONE) {
      return NONE;
    }
    return what == 0 ? Integer.bitCount(set) : set;
  }

  public int odds(int f, int v, int n, int q) {
    if (!theStreet.ground.has(f)) {
      return UNKNOWN;
    }
    if (isOutside(v, 0, MOST_HEIGHT) || isOutside(n, 1, MOST_CHANCES) || isOutside(q, 0, 100)) {
      return OUTSIDE;
    }
    return theStreet.ground.chanceOf(f, v, now.breath, n, q);
  }

  // ---- books, images

  public int write(int way) {
    if (isOutside(way, STAYS, EAST)) {
      return OUTSIDE;
    }
    return book.lines >= MOST_LINES ? FULL : book.note(way);
  }

  public int judge(int what) {
    if (isOutside(what, 0, 1)) {
      return OUTSIDE;
    }
    if (theStreet.ground.count == 0) {
      return NOT;
    }
    int wrong = book.tryFrom(theStreet, now);
    return what == 0 ? wrong : book.pulledAhead;
  }

  public int tear() {
    int all = cough.heard + sights.seen + book.lines;
    forgetNotes();
    return all;
  }

  public int seed(int v) {
    if (v < 0) {
      return OUTSIDE;
    }
    int former = theSeed;
    theSeed = v;
    return former;
  }

  public int keep(int i) {
    if (isOutside(i, 0, 1)) {
      return UNKNOWN;
    }
    imageOf(i).take(now, theStreet, theSeed);
    trail.count = 0;
    return 1;
  }

  public int goBack(int i) {
    if (isOutside(i, 0, 1)) {
      return UNKNOWN;
    }
    Image image = imageOf(i);
    if (!image.kept) {
      return NOT;
    }
    image.giveBack(now, theStreet);
    theSeed = image.seedKept;
    trail.count = 0;
    return 1;
  }

  // ---- what the calls share

  private int letPass(int n, boolean held) {
    if (isOutside(n, 1, MOST_PASSED)) {
      return OUTSIDE;
    }
    if (now.steps + n > MOST_STEPS) {
      return FULL;
    }
    // Only the latest steps can be undone: those ahead of them need no trail.
    int unkept = Math.max(0, n - MOST_UNDONE);
    now.pass(unkept, held);
    for (int i = unkept; i < n; i++) {
      trail.note(now);
      now.pass(1, held);
    }
    return now.breath;
  }

  private int draw(int n) {
    if (n < 1) {
      return 0;
    }
    theSeed = (int) ((theSeed * 1103515245L + 12345L) & 0x7fffffffL);
    return theSeed / 65536 % n;
  }

  private void forgetNotes() {
    cough.heard = 0;
    sights.seen = 0;
    book.lines = 0;
  }

  private Image imageOf(int i) {
    return i == 0 ? firstImage : secondImage;
  }

  private static boolean isOutside(int v, int low, int high) {
    return v < low || v > high;
  }

  /** The least number that both leave nothing over of; b is at most MOST_ROUND. */
  private static int leastCommon(int a, int b) {
    if (b < 1) {
      return a;
    }
    for (int times = 1; times < b; times++) {
      if (a * times % b == 0) {
        return a * times;
      }
    }
    return a * b;
  }

  /** How far x is from the nearest whole turn of n. */
  private static int swell(int x, int n) {
    if (n < 1) {
      return 0;
    }
    int left = Math.floorMod(x, n);
    return Math.min(left, n - left);
  }

  private static int besideOf(int f, int way) {
    if (way == WEST) {
      return f - 1;
    }
    return way == EAST ? f + 1 : f;
  }

  // ---- the parts

  /** The text as it is fed, and its reader. */
  private static final class Text {
    private static final int BLANK = 32;
    private static final int MISPLACED = 1;
    private static final int OUT_OF_BOUNDS = 2;
    private static final int TOO_MANY = 3;

    private final int[] letters = new int[MOST_LETTERS];
    int length = 0;
    private int at = 0;
    private int faultKind = 0;
    int faultAt = NONE;

    int add(int letter) {
      if (length < MOST_LETTERS) {
        letters[length] = letter;
        length++;
      }
      return length;
    }

    /** The number of the first fault, or 0. */
    int readInto(Street into) {
      into.clear();
      at = 0;
      faultKind = 0;
      faultAt = NONE;
      skipBlanks();
      for (int clause = 0; clause < MOST_LETTERS && at < length && faultKind == 0; clause++) {
        readClause(into);
        skipBlanks();
      }
      return faultKind;
    }

    private void readClause(Street into) {
      switch (letterHere()) {
        case 'f':
          readField(into.ground);
          break;
        case 'h':
          readHouse(into);
          break;
        case 's':
          readSeam(into.seams, into.ground.count);
          break;
        case 'b':
          readBarrel(into);
          break;
        default:
          blame(MISPLACED, at);
      }
    }

    private void readField(Ground ground) {
      readWord(ground.count >= MOST_FIELDS);
      int base = readNumber(0, 99);
      int turn = readNumber(LEAST_ROUND, MOST_ROUND);
      int late = readNumber(0, 11);
      int swing = readNumber(0, 9);
      readEnd();
      if (faultKind == 0) {
        ground.add(base, turn, late, swing);
      }
    }

    private void readHouse(Street into) {
      readWord(into.houses >= MOST_HOUSES);
      int field = readNumber(0, into.ground.count - 2);
      int slack = readNumber(0, 99);
      readEnd();
      if (faultKind == 0) {
        into.addHouse(field, slack);
      }
    }

    private void readSeam(Seams seams, int fields) {
      readWord(seams.count >= MOST_SEAMS);
      int field = readNumber(0, fields - 2);
      int turn = readNumber(1, 12);
      int first = readNumber(0, 11);
      int width = readNumber(0, 12);
      readEnd();
      if (faultKind == 0) {
        seams.add(field, turn, first, width);
      }
    }

    private void readBarrel(Street into) {
      readWord(into.barrelTold != NONE);
      int field = readNumber(0, into.ground.count - 1);
      readEnd();
      if (faultKind == 0) {
        into.barrelTold = field;
      }
    }

    private void readWord(boolean tooMany) {
      if (tooMany) {
        blame(TOO_MANY, at);
      } else {
        at++;
      }
    }

    /** A number within its bounds; what it answers is of no use once there is a fault. */
    private int readNumber(int low, int high) {
      if (faultKind != 0) {
        return 0;
      }
      skipBlanks();
      int first = at;
      int value = 0;
      while (at < length && isFigure(letterHere())) {
        // Beyond three figures it is a fault whatever it is, so it need not grow.
        if (at - first < 3) {
          value = value * 10 + letterHere() - '0';
        }
        at++;
      }
      if (at == first) {
        blame(MISPLACED, at);
      } else if (at - first > 3 || isOutside(value, low, high)) {
        blame(OUT_OF_BOUNDS, first);
      }
      return value;
    }

    private void readEnd() {
      if (faultKind != 0) {
        return;
      }
      skipBlanks();
      if (letterHere() == ';') {
        at++;
      } else {
        blame(MISPLACED, at);
      }
    }

    private void skipBlanks() {
      while (at < length && letterHere() == BLANK) {
        at++;
      }
    }

    private int letterHere() {
      return at >= 0 && at < length && at < MOST_LETTERS ? letters[at] : NONE;
    }

    private static boolean isFigure(int letter) {
      return letter >= '0' && letter <= '9';
    }

    private void blame(int kind, int where) {
      faultKind = kind;
      faultAt = where;
    }
  }

  /** All that a text tells; a house stands on a gap, as a seam does. */
  private static final class Street {
    final Ground ground = new Ground();
    final Seams seams = new Seams();
    final int[] houseFields = new int[MOST_HOUSES];
    final int[] slacks = new int[MOST_HOUSES];
    int houses = 0;
    int barrelTold = NONE;

    void clear() {
      ground.clear();
      seams.count = 0;
      houses = 0;
      barrelTold = NONE;
    }

    int barrelStart() {
      if (ground.count == 0) {
        return NONE;
      }
      return barrelTold == NONE ? 0 : barrelTold;
    }

    boolean hasHouse(int h) {
      return h >= 0 && h < houses;
    }

    void addHouse(int field, int slack) {
      if (houses >= MOST_HOUSES) {
        return;
      }
      houseFields[houses] = field;
      slacks[houses] = slack;
      houses++;
    }

    /** How much slack a house needs at a breath. */
    private int strain(int h, int breath) {
      return hasHouse(h) ? Math.abs(ground.leanAt(houseFields[h], breath)) : 0;
    }

    /** After so many breaths the strain of a house comes again. */
    private int strainRound(int h) {
      return hasHouse(h) ? ground.leanRound(houseFields[h]) : 0;
    }

    int crackedSet(int breath) {
      int set = 0;
      for (int h = 0; h < houses; h++) {
        if (strain(h, breath) > slacks[h]) {
          set |= 1 << h;
        }
      }
      return set;
    }

    int firstCrack(int h, int from) {
      if (!hasHouse(h)) {
        return NONE;
      }
      int end = from + strainRound(h);
      for (int breath = from; breath < end; breath++) {
        if (strain(h, breath) > slacks[h]) {
          return breath;
        }
      }
      return NONE;
    }

    int slackNeeded(int h) {
      int most = 0;
      int round = strainRound(h);
      for (int breath = 0; breath < round; breath++) {
        most = Math.max(most, strain(h, breath));
      }
      return most;
    }

    int neediestHouse() {
      int neediest = NONE;
      int most = 0;
      for (int h = 0; h < houses; h++) {
        int lack = slackNeeded(h) - slacks[h];
        if (lack > most) {
          most = lack;
          neediest = h;
        }
      }
      return neediest;
    }
  }

  /** The fields, from west to east; a gap f is between field f and the next one. */
  private static final class Ground {
    final int[] bases = new int[MOST_FIELDS];
    final int[] turns = new int[MOST_FIELDS];
    final int[] lates = new int[MOST_FIELDS];
    final int[] swings = new int[MOST_FIELDS];
    private final long[] shares = new long[MOST_CHANCES + 1];
    int count = 0;
    int wholeRound = 1;

    void clear() {
      count = 0;
      wholeRound = 1;
    }

    boolean has(int f) {
      return f >= 0 && f < count;
    }

    boolean hasGap(int f) {
      return f >= 0 && f < count - 1;
    }

    void add(int base, int turn, int late, int swing) {
      if (count >= MOST_FIELDS) {
        return;
      }
      bases[count] = base;
      turns[count] = turn;
      lates[count] = late;
      swings[count] = swing;
      count++;
      wholeRound = leastCommon(wholeRound, turn);
    }

    int heightAt(int f, int breath) {
      return has(f) ? bases[f] + swings[f] * swell(breath + lates[f], turns[f]) : 0;
    }

    int leanAt(int f, int breath) {
      return hasGap(f) ? heightAt(f + 1, breath) - heightAt(f, breath) : 0;
    }

    /** How much higher the one is than the other, or 0. */
    int climb(int from, int to, int breath) {
      return Math.max(0, heightAt(to, breath) - heightAt(from, breath));
    }

    /** After so many breaths the lean of a gap comes again. */
    int leanRound(int f) {
      return hasGap(f) ? leastCommon(turns[f], turns[f + 1]) : 1;
    }

    int flownTo(int f, int breath, int n) {
      int at = f;
      for (int i = 1; i <= n; i++) {
        at = lowerBeside(at, breath + i);
      }
      return at;
    }

    private int lowerBeside(int f, int breath) {
      int lowest = f;
      if (has(f - 1) && heightAt(f - 1, breath) < heightAt(lowest, breath)) {
        lowest = f - 1;
      }
      if (has(f + 1) && heightAt(f + 1, breath) < heightAt(lowest, breath)) {
        lowest = f + 1;
      }
      return lowest;
    }

    /** Breaths that run east (0) or west (1), or all leans together (2). */
    int milled(int f, int what) {
      int round = leanRound(f);
      int sum = 0;
      for (int breath = 0; breath < round; breath++) {
        int lean = leanAt(f, breath);
        if (what == 2) {
          sum += Math.abs(lean);
        } else if (what == 0 ? lean < 0 : lean > 0) {
          sum++;
        }
      }
      // The street's round is so many whole rounds of the gap, wherever it starts.
      return round < 1 ? 0 : sum * (wholeRound / round);
    }

    int bestGap() {
      int best = NONE;
      int most = -1;
      for (int f = 0; f < count - 1; f++) {
        int all = milled(f, 2);
        if (all > most) {
          most = all;
          best = f;
        }
      }
      return best;
    }

    int flooded(int v, int breath, int n) {
      int set = 0;
      for (int f = 0; f < count; f++) {
        for (int i = 0; i < n; i++) {
          if (heightAt(f, breath + i) < v) {
            set |= 1 << f;
            break;
          }
        }
      }
      return set;
    }

    /** The least set of the fewest gaps that have all these fields at their sides, or NONE. */
    int fewestSluices(int wet) {
      int gaps = Math.max(0, Math.min(count, MOST_FIELDS) - 1);
      int best = NONE;
      for (int set = 0; set < 1 << gaps; set++) {
        boolean dry = (wet & ~(set | set << 1)) == 0;
        if (dry && (best == NONE || Integer.bitCount(set) < Integer.bitCount(best))) {
          best = set;
        }
      }
      return best;
    }

    /** Of a billion, how many have the field at v or higher behind n steps. */
    int chanceOf(int f, int v, int breath, int n, int q) {
      int last = Math.min(n, MOST_CHANCES);
      shares[0] = BILLION;
      for (int i = 1; i <= last; i++) {
        shareOut(i, q);
      }
      long sum = 0;
      for (int held = 0; held <= last; held++) {
        if (heightAt(f, breath + last - held) >= v) {
          sum += shares[held];
        }
      }
      return (int) sum;
    }

    /** The i-th step; shares[k] is what has k held breaths. It goes down, so that each moves once. */
    private void shareOut(int i, int q) {
      if (i < 1 || i > MOST_CHANCES) {
        return;
      }
      shares[i] = 0;
      for (int held = i - 1; held >= 0; held--) {
        long moved = shares[held] * q / 100;
        shares[held + 1] += moved;
        shares[held] -= moved;
      }
    }
  }

  /** The seams, each in a gap. */
  private static final class Seams {
    private static final int ALWAYS = 1000000;

    final int[] fields = new int[MOST_SEAMS];
    final int[] turns = new int[MOST_SEAMS];
    final int[] firsts = new int[MOST_SEAMS];
    final int[] widths = new int[MOST_SEAMS];
    int count = 0;

    boolean has(int s) {
      return s >= 0 && s < count;
    }

    boolean hasAll(int set) {
      return set >= 0 && set < 1 << count;
    }

    void add(int field, int turn, int first, int width) {
      if (count >= MOST_SEAMS) {
        return;
      }
      fields[count] = field;
      turns[count] = turn;
      firsts[count] = first;
      widths[count] = width;
      count++;
    }

    /** For how many steps a seam stays open from this one on (0: it is shut). */
    private int staysOpen(int s, int step) {
      if (!has(s) || turns[s] < 1) {
        return 0;
      }
      if (widths[s] >= turns[s]) {
        return ALWAYS;
      }
      return Math.max(0, widths[s] - Math.floorMod(step - firsts[s], turns[s]));
    }

    /** In how many steps, at the soonest, a seam may be open (0: it is). */
    private int staysShut(int s, int step) {
      if (staysOpen(s, step) > 0) {
        return 0;
      }
      return has(s) && turns[s] > 0 ? turns[s] - Math.floorMod(step - firsts[s], turns[s]) : 1;
    }

    int openSet(int step) {
      int set = 0;
      for (int s = 0; s < count; s++) {
        if (staysOpen(s, step) > 0) {
          set |= 1 << s;
        }
      }
      return set;
    }

    boolean letsThrough(int gap, int step) {
      for (int s = 0; s < count; s++) {
        if (fields[s] == gap && staysOpen(s, step) == 0) {
          return false;
        }
      }
      return true;
    }

    private int roundOf(int set) {
      int round = 1;
      for (int s = 0; s < count; s++) {
        if ((set >> s & 1) == 1) {
          round = leastCommon(round, turns[s]);
        }
      }
      return round;
    }

    /** For how many steps all stay open from this one on. */
    private int allOpenFor(int set, int step) {
      int shortest = ALWAYS;
      for (int s = 0; s < count; s++) {
        if ((set >> s & 1) == 1) {
          shortest = Math.min(shortest, staysOpen(s, step));
        }
      }
      return shortest;
    }

    /** For how many steps some of them is surely shut from this one on. */
    private int someShutFor(int set, int step) {
      int longestShut = 0;
      for (int s = 0; s < count; s++) {
        if ((set >> s & 1) == 1) {
          longestShut = Math.max(longestShut, staysShut(s, step));
        }
      }
      return longestShut;
    }

    int waitFor(int set, int from) {
      int round = roundOf(set);
      int wait = 0;
      while (wait < round) {
        int shut = someShutFor(set, from + wait);
        if (shut == 0) {
          return wait;
        }
        wait += Math.max(1, shut);
      }
      return NONE;
    }

    int longestRun(int set) {
      int round = roundOf(set);
      int most = 0;
      int at = 0;
      // A run that is cut by the start is met whole where it begins, ahead of the round's end.
      while (at < round) {
        int run = allOpenFor(set, at);
        if (run >= ALWAYS) {
          return NONE;
        }
        most = Math.max(most, run);
        at += Math.max(1, run > 0 ? run : someShutFor(set, at));
      }
      return most;
    }
  }

  /** Where the day stands. */
  private static final class Moment {
    int steps = 0;
    int breath = 0;
    int barrel = NONE;
    int pulled = 0;

    void startAt(int field) {
      steps = 0;
      breath = 0;
      barrel = field;
      pulled = 0;
    }

    void become(Moment other) {
      steps = other.steps;
      breath = other.breath;
      barrel = other.barrel;
      pulled = other.pulled;
    }

    void pass(int n, boolean held) {
      steps += n;
      if (!held) {
        breath += n;
      }
    }

    boolean canGo(Street on, int way) {
      int beside = besideOf(barrel, way);
      if (!on.ground.has(barrel) || !on.ground.has(beside)) {
        return false;
      }
      return beside == barrel || on.seams.letsThrough(Math.min(barrel, beside), steps + 1);
    }

    /** What is pulled by it; the caller has asked canGo. */
    int go(Street on, int way, boolean held) {
      int beside = besideOf(barrel, way);
      pass(1, held);
      int climbed = on.ground.climb(barrel, beside, breath);
      barrel = beside;
      pulled += climbed;
      return climbed;
    }
  }

  /** The moments ahead of the latest steps, as a ring. */
  private static final class Trail {
    private final int[] steps = new int[MOST_UNDONE];
    private final int[] breaths = new int[MOST_UNDONE];
    private final int[] barrels = new int[MOST_UNDONE];
    private final int[] pulls = new int[MOST_UNDONE];
    private int next = 0;
    int count = 0;

    void note(Moment moment) {
      if (isOutside(next, 0, MOST_UNDONE - 1)) {
        next = 0;
      }
      steps[next] = moment.steps;
      breaths[next] = moment.breath;
      barrels[next] = moment.barrel;
      pulls[next] = moment.pulled;
      next = (next + 1) % MOST_UNDONE;
      count = Math.min(count + 1, MOST_UNDONE);
    }

    void takeBack(Moment moment, int n) {
      if (isOutside(n, 1, count)) {
        return;
      }
      next = Math.floorMod(next - n, MOST_UNDONE);
      count -= n;
      moment.steps = steps[next];
      moment.breath = breaths[next];
      moment.barrel = barrels[next];
      moment.pulled = pulls[next];
    }
  }

  /** What was so when it was kept. */
  private static final class Image {
    boolean kept = false;
    private final Moment moment = new Moment();
    private final int[] slacks = new int[MOST_HOUSES];
    int seedKept = 0;

    void take(Moment from, Street on, int seedNow) {
      kept = true;
      moment.become(from);
      System.arraycopy(on.slacks, 0, slacks, 0, MOST_HOUSES);
      seedKept = seedNow;
    }

    void giveBack(Moment to, Street on) {
      to.become(moment);
      System.arraycopy(slacks, 0, on.slacks, 0, MOST_HOUSES);
    }
  }

  /** Ways home. */
  private static final class Home {
    /** More than any way home can pull. */
    private static final int FAR = 1000000;

    /** At i steps from now on field f: the least that is still pulled, at i * MOST_FIELDS + f. */
    private final int[] pulls = new int[(MOST_HOME + 1) * MOST_FIELDS];
    private int goal = 0;
    private int most = 0;

    int fewestSteps(Street on, Moment now, int from, int to) {
      int at = from;
      int steps = 0;
      // Waiting is free, so to go on wherever it is open is never later than any other way.
      while (at != to && steps < MOST_SOON) {
        steps++;
        int next = at < to ? at + 1 : at - 1;
        if (on.seams.letsThrough(Math.min(at, next), now.steps + steps)) {
          at = next;
        }
      }
      return at == to ? steps : NONE;
    }

    void weigh(Street on, Moment now, int to, int n) {
      goal = to;
      most = Math.max(0, Math.min(n, MOST_HOME));
      for (int i = most; i >= 0; i--) {
        for (int f = 0; f < on.ground.count; f++) {
          int best = f == goal ? 0 : FAR;
          for (int way = STAYS; way <= EAST && i < most && f != goal; way++) {
            best = Math.min(best, pulledBy(on, now, i, f, way));
          }
          pulls[i * MOST_FIELDS + f] = best;
        }
      }
    }

    int leastPulled(int from) {
      int all = pulledFrom(0, from);
      return all < FAR ? all : NONE;
    }

    int leastWay(Street on, Moment now, int from, int wanted) {
      if (leastPulled(from) == NONE) {
        return NONE;
      }
      int at = from;
      for (int i = 0; i < most && at != goal; i++) {
        int way = firstBest(on, now, i, at);
        if (i == wanted) {
          return way;
        }
        at = besideOf(at, way);
      }
      return NONE;
    }

    private int firstBest(Street on, Moment now, int i, int f) {
      int best = pulledFrom(i, f);
      for (int way = STAYS; way < EAST; way++) {
        if (pulledBy(on, now, i, f, way) == best) {
          return way;
        }
      }
      return EAST;
    }

    /** The least that is pulled by a way that starts so, i steps from now. */
    private int pulledBy(Street on, Moment now, int i, int f, int way) {
      int beside = besideOf(f, way);
      if (!on.ground.has(beside)) {
        return FAR;
      }
      if (way != STAYS && !on.seams.letsThrough(Math.min(f, beside), now.steps + i + 1)) {
        return FAR;
      }
      int rest = pulledFrom(i + 1, beside);
      return rest >= FAR ? FAR : rest + on.ground.climb(f, beside, now.breath + i + 1);
    }

    private int pulledFrom(int i, int f) {
      if (isOutside(i, 0, most) || isOutside(f, 0, MOST_FIELDS - 1)) {
        return FAR;
      }
      return pulls[i * MOST_FIELDS + f];
    }
  }

  /** What was heard of a cough. */
  private static final class Cough {
    private final int[] fields = new int[MOST_HEARD];
    private final int[] agos = new int[MOST_HEARD];
    int heard = 0;
    /** Where and when it may have begun: 100 times the field and the steps ago. */
    final int[] origins = new int[MOST_FIELDS * (MOST_AGO + 1)];
    /** How many origins come at a time; a wave may be up to MOST_FIELDS steps ahead of now. */
    private final int[] parts = new int[MOST_FIELDS + MOST_AGO + 1];

    int note(int field, int ago) {
      if (heard < MOST_HEARD) {
        fields[heard] = field;
        agos[heard] = ago;
        heard++;
      }
      return heard;
    }

    /** Finds all origins that explain what was heard: how many. */
    int gather(int fieldCount) {
      int count = 0;
      for (int f = 0; f < fieldCount; f++) {
        for (int ago = 0; ago <= MOST_AGO; ago++) {
          if (explains(f, ago) && count < origins.length) {
            origins[count] = 100 * f + ago;
            count++;
          }
        }
      }
      return count;
    }

    private boolean explains(int field, int ago) {
      for (int k = 0; k < heard; k++) {
        if (ago - Math.abs(field - fields[k]) != agos[k]) {
          return false;
        }
      }
      return true;
    }

    int bestWatch(int count, int fieldCount) {
      int best = NONE;
      int least = count;
      for (int f = 0; f < fieldCount; f++) {
        int greatest = greatestPart(f, count);
        if (greatest < least) {
          least = greatest;
          best = f;
        }
      }
      return best;
    }

    private int greatestPart(int watched, int count) {
      for (int k = 0; k < parts.length; k++) {
        parts[k] = 0;
      }
      int greatest = 0;
      for (int k = 0; k < count && k < origins.length; k++) {
        int comes = origins[k] % 100 - Math.abs(watched - origins[k] / 100) + MOST_FIELDS;
        if (comes >= 0 && comes < parts.length) {
          parts[comes]++;
          greatest = Math.max(greatest, parts[comes]);
        }
      }
      return greatest;
    }
  }

  /** What was seen of heights. */
  private static final class Sights {
    private final int[] fields = new int[MOST_SEEN];
    private final int[] breaths = new int[MOST_SEEN];
    private final int[] heights = new int[MOST_SEEN];
    int seen = 0;

    int note(int field, int breath, int height) {
      if (seen < MOST_SEEN) {
        fields[seen] = field;
        breaths[seen] = breath;
        heights[seen] = height;
        seen++;
      }
      return seen;
    }

    int countTurns(Ground ground, int f) {
      int count = 0;
      for (int turn = LEAST_ROUND; turn <= MOST_ROUND; turn++) {
        for (int late = 0; late < turn; late++) {
          if (explains(ground, f, turn, late)) {
            count++;
          }
        }
      }
      return count;
    }

    int findTurn(Ground ground, int f, int wanted) {
      int count = 0;
      for (int turn = LEAST_ROUND; turn <= MOST_ROUND; turn++) {
        for (int late = 0; late < turn; late++) {
          if (explains(ground, f, turn, late)) {
            if (count == wanted) {
              return 100 * turn + late;
            }
            count++;
          }
        }
      }
      return NONE;
    }

    private boolean explains(Ground ground, int f, int turn, int late) {
      if (!ground.has(f)) {
        return false;
      }
      for (int k = 0; k < seen; k++) {
        int due = ground.bases[f] + ground.swings[f] * swell(breaths[k] + late, turn);
        if (fields[k] == f && due != heights[k]) {
          return false;
        }
      }
      return true;
    }
  }

  /** The book of ways. */
  private static final class Book {
    private final int[] ways = new int[MOST_LINES];
    private final Moment tried = new Moment();
    int lines = 0;
    int pulledAhead = 0;

    int note(int way) {
      if (lines < MOST_LINES) {
        ways[lines] = way;
        lines++;
      }
      return lines;
    }

    /** The first line that the barrel cannot go, or NONE; pulledAhead is what those ahead pull. */
    int tryFrom(Street on, Moment now) {
      tried.become(now);
      pulledAhead = 0;
      for (int k = 0; k < lines; k++) {
        if (!tried.canGo(on, ways[k])) {
          return k;
        }
        pulledAhead += tried.go(on, ways[k], false);
      }
      return NONE;
    }
  }
}
