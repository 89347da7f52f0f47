import java.util.Arrays;

/**
 * A street of doors on toothed wheels, told in a language: what a push does to all, what jams and
 * locks, plans of pushes, joins to cut, wheels that slipped, and days of comings by told rules.
 */
public final class DoorsOnCogs {
  public static final int NONE = -1;

  private static final long NO_FRACTION = -1000000000000L;
  private static final int NO_REACH = -100;
  private static final int REFUSED_COMING = -2;
  private static final int NO_PAIR = -2;
  private static final int FAULT_BASE = -2;

  private static final int MOST_BYTES = 400;
  private static final int MOST_DOORS = 12;
  private static final int MOST_JOINS = 16;
  private static final int MOST_AXLES = 3;
  private static final int STREET_CLAUSES = 32;
  private static final int RULE_CLAUSES = 12;
  private static final int MOST_RULES = 6;
  private static final int MOST_COMINGS = 40;
  private static final int MOST_IMAGES = 4;
  private static final int MOST_PUSH = 60;
  private static final int MOST_SEEN = 9999;
  private static final int MOST_SLIP = 9;
  private static final int MOST_DRAWN_DAYS = 20;
  private static final int MOST_DRAWN_COMINGS = 60;

  private static final int MESH = 0;
  private static final int AXLE = 2;

  private static final int IS_FIXED = -2;
  private static final int IS_LOCKED = -3;
  private static final int JAMS = -10;

  private final int[] tape = new int[MOST_BYTES];
  private int tapeLength;
  private final Script script = new Script(tape);
  private final Scene scene = new Scene();
  private final Scene draft = new Scene();
  private final Scene[] images = new Scene[MOST_IMAGES];
  private final boolean[] isMade = new boolean[MOST_IMAGES];
  private final Gears gears = new Gears(scene);
  private final Cutter cutter = new Cutter(scene);
  private final Planner planner = new Planner(scene, gears);
  private final RuleBook book = new RuleBook(gears);
  private final StreetReader streetReader = new StreetReader(script, draft);
  private final RuleReader ruleReader = new RuleReader(script, book);
  private final Diary diary = new Diary(gears, book);
  private final int[] drawnComings = new int[MOST_DRAWN_COMINGS];

  public DoorsOnCogs() {
    for (int k = 0; k < MOST_IMAGES; k++) {
      images[k] = new Scene();
    }
  }

  public int feed(int a, int b, int c, int d, int e) {
    if (tapeLength + 20 > MOST_BYTES) {
      return NONE;
    }
    feedNumber(a);
    feedNumber(b);
    feedNumber(c);
    feedNumber(d);
    feedNumber(e);
    return tapeLength;
  }

  private void feedNumber(int four) {
    for (int shift = 24; shift >= 0 && tapeLength < MOST_BYTES; shift -= 8) {
      tape[tapeLength] = (four >>> shift) & 255;
      tapeLength++;
    }
  }

  public int end(int n) {
    if (n < 0 || n > tapeLength) {
      return NONE;
    }
    tapeLength = n;
    return n;
  }

  public int street() {
    script.open(tapeLength);
    streetReader.read();
    tapeLength = 0;
    if (script.fault != 0) {
      return FAULT_BASE - script.fault;
    }
    draft.x = scene.x;
    scene.copyFrom(draft);
    gears.fit();
    return scene.doors;
  }

  public int rule() {
    if (book.rules >= MOST_RULES) {
      return NONE;
    }
    script.open(tapeLength);
    book.startDraft();
    ruleReader.read();
    tapeLength = 0;
    if (script.fault != 0) {
      return FAULT_BASE - script.fault;
    }
    return book.keepDraft();
  }

  public int door(int door, int what) {
    if (!scene.isDoor(door)) {
      return NONE;
    }
    switch (what) {
      case 0:
        return scene.teeth[door];
      case 1:
        return scene.span[door];
      case 2:
        return bitOf(scene.fixed, door);
      case 3:
        return gears.isOpen(door) ? 1 : 0;
      case 4:
        return bitOf(gears.locked, door);
      case 5:
        return gears.least[door];
      default:
        return NONE;
    }
  }

  public long place(int door, int part) {
    if (!scene.isDoor(door) || !isPart(part)) {
      return NO_FRACTION;
    }
    return lowest(scene.spot[door], gears.below[door], part);
  }

  public int join(int join, int what) {
    if (join < 0 || join >= scene.joins) {
      return NONE;
    }
    switch (what) {
      case 0:
        return scene.joinOne[join];
      case 1:
        return scene.joinOther[join];
      case 2:
        return scene.joinKind[join];
      default:
        return NONE;
    }
  }

  public long ratio(int one, int other, int part) {
    if (!scene.isDoor(one) || !scene.isDoor(other) || !isPart(part)) {
      return NO_FRACTION;
    }
    if (gears.least[one] != gears.least[other]) {
      return part;
    }
    if (bitOf(gears.locked, one) == 1) {
      return NO_FRACTION;
    }
    return lowest(gears.stepOf(one, other), gears.below[other], part);
  }

  public int push(int door, int n) {
    int answer = can(door, n);
    if (answer > 0) {
      gears.turnSet(door, n);
    }
    return answer;
  }

  public int can(int door, int n) {
    if (!scene.isDoor(door) || n == 0 || !isWithin(n, MOST_PUSH)) {
      return NONE;
    }
    return gears.tryPush(door, n);
  }

  public int reach(int door, boolean isBack) {
    if (!scene.isDoor(door)) {
      return NO_REACH;
    }
    int way = isBack ? -1 : 1;
    int far = 0;
    for (int n = 1; n <= MOST_PUSH && gears.tryPush(door, n * way) > 0; n++) {
      far = n * way;
    }
    return far;
  }

  public boolean slip(int door, int n) {
    if (!scene.isDoor(door) || !isWithin(n, MOST_PUSH)) {
      return false;
    }
    long spot = scene.spot[door] + n * gears.below[door];
    if (gears.isBeyond(door, spot)) {
      return false;
    }
    scene.spot[door] = spot;
    return true;
  }

  public boolean want(int open, int shut) {
    if (!scene.isSet(open) || !scene.isSet(shut) || (open & shut) != 0) {
      return false;
    }
    scene.wantedOpen = open;
    scene.wantedShut = shut;
    return true;
  }

  public int planned(int touched, int watched) {
    if (!isPlanOf(touched, watched)) {
      return NONE;
    }
    return planner.solve(touched, watched, 0);
  }

  public int row(int touched, int watched, int k) {
    if (!isPlanOf(touched, watched) || k < 0) {
      return NONE;
    }
    int pushes = planner.solve(touched, watched, k);
    return pushes < 0 ? pushes : planner.askedPush;
  }

  /** Unlike want, a plan takes no sets without a street, not even empty ones. */
  private boolean isPlanOf(int touched, int watched) {
    return scene.doors > 0 && scene.isSet(touched) && scene.isSet(watched);
  }

  public int cut(int one, int other) {
    if (!scene.isDoor(one) || !scene.isDoor(other) || one == other) {
      return NONE;
    }
    if (gears.least[one] != gears.least[other]) {
      return NONE;
    }
    return cutter.fewest(one, other);
  }

  public int freed(int door) {
    if (!scene.isDoor(door) || bitOf(gears.locked, door) == 0) {
      return NONE;
    }
    return cutter.fewest(door, NONE);
  }

  public boolean seen(int door, int teeth) {
    if (door == NONE) {
      scene.seenSet = 0;
      return true;
    }
    if (!scene.isDoor(door) || !isWithin(teeth, MOST_SEEN)) {
      return false;
    }
    scene.seenSet |= 1 << door;
    scene.seenTeeth[door] = teeth;
    return true;
  }

  public int slipped(int what) {
    if (scene.doors == 0 || what < 0 || what > 2) {
      return NONE;
    }
    int strays = 0;
    int stray = NONE;
    for (int d = 0; d < scene.doors; d++) {
      if (strayOf(d) != 0) {
        strays++;
        stray = d;
      }
    }
    // One door alone slips, so a second one that is not as seen leaves no pair.
    boolean isPair = strays == 1 && Math.abs(strayOf(stray)) <= MOST_SLIP;
    if (what == 0) {
      return isPair ? 1 : 0;
    }
    if (what == 1) {
      return isPair ? stray : NO_PAIR;
    }
    return isPair ? (int) strayOf(stray) : 0;
  }

  /** How many teeth a door would have to be further to be as it was seen. */
  private long strayOf(int door) {
    if (!scene.isDoor(door) || bitOf(scene.seenSet, door) == 0) {
      return 0;
    }
    return scene.seenTeeth[door] - gears.wholeTeeth(door);
  }

  public int coming(int door) {
    if (door == NONE) {
      scene.comings = 0;
      return 0;
    }
    if (!scene.isDoor(door) || scene.comings >= MOST_COMINGS) {
      return REFUSED_COMING;
    }
    scene.comingDoor[scene.comings] = door;
    scene.comings++;
    return scene.comings;
  }

  public int day(int rule) {
    if (!isDayBy(rule)) {
      return NONE;
    }
    diary.clear();
    diary.spend(rule, scene.comingDoor, scene.comings);
    return diary.passes;
  }

  public int would(int rule, int what) {
    if (!isDayBy(rule) || what < 0 || what > 3) {
      return NONE;
    }
    int open = imagineDay(rule);
    return what == 3 ? open : diary.tally(what);
  }

  public long worn(int rule, int door, int part) {
    if (!isDayBy(rule) || !scene.isDoor(door) || !isPart(part)) {
      return NONE;
    }
    imagineDay(rule);
    return lowest(diary.wear[door], gears.below[door], part);
  }

  private boolean isDayBy(int rule) {
    return scene.doors > 0 && rule >= 0 && rule < book.rules;
  }

  /** Spends the told day and takes all turns back; the doors that are open at its end. */
  private int imagineDay(int rule) {
    diary.clear();
    gears.keepSpots();
    diary.spend(rule, scene.comingDoor, scene.comings);
    int open = gears.openSet();
    gears.takeSpotsBack();
    return open;
  }

  public int seed(int x) {
    if (x < 0) {
      return NONE;
    }
    int was = scene.x;
    scene.x = x;
    return was;
  }

  public int drawn(int rule, int m, int n, int what) {
    if (!isDayBy(rule) || m < 1 || m > MOST_DRAWN_DAYS) {
      return NONE;
    }
    if (n < 1 || n > MOST_DRAWN_COMINGS || what < 0 || what > 2) {
      return NONE;
    }
    diary.clear();
    gears.keepSpots();
    long x = scene.x;
    for (int i = 0; i < m; i++) {
      x = drawComings(x, n);
      diary.spend(rule, drawnComings, n);
      gears.takeSpotsBack();
    }
    return diary.tally(what);
  }

  /** Draws the doors of n comings from x on, and answers the x behind the last one. */
  private long drawComings(long x, int n) {
    long next = x;
    for (int i = 0; i < n && i < MOST_DRAWN_COMINGS; i++) {
      next = (next * 1103515245L + 12345L) & 2147483647L;
      drawnComings[i] = scene.doors > 0 ? (int) ((next / 65536L) % scene.doors) : 0;
    }
    return next;
  }

  public int count(int what) {
    switch (what) {
      case 0:
        return scene.doors;
      case 1:
        return scene.joins;
      case 2:
        return book.rules;
      case 3:
        return gears.openSet();
      case 4:
        return gears.locked;
      case 5:
        return gears.sets;
      case 6:
        return scene.comings;
      case 7:
        return scene.seenSet;
      case 8:
        return scene.x;
      case 9:
        return tapeLength;
      case 10:
        return scene.wantedOpen;
      case 11:
        return scene.wantedShut;
      default:
        return NONE;
    }
  }

  public int image(int k) {
    if (k < 0 || k >= MOST_IMAGES) {
      return NONE;
    }
    images[k].copyFrom(scene);
    isMade[k] = true;
    return gears.openSet();
  }

  public int back(int k) {
    if (k < 0 || k >= MOST_IMAGES || !isMade[k]) {
      return NONE;
    }
    scene.copyFrom(images[k]);
    gears.fit();
    return gears.openSet();
  }

  private static boolean isPart(int part) {
    return part == 0 || part == 1;
  }

  private static boolean isWithin(int n, int most) {
    return n >= -most && n <= most;
  }

  private static int bitOf(int set, int index) {
    return (set >>> index) & 1;
  }

  private static long divisorOf(long a, long b) {
    long x = Math.abs(a);
    long y = Math.abs(b);
    for (int i = 0; i < 200 && y != 0; i++) {
      long rest = x % y;
      x = y;
      y = rest;
    }
    return x == 0 ? 1 : x;
  }

  /** The part above (0) or below (1) the line of a fraction in lowest terms. */
  private static long lowest(long above, long below, int part) {
    return (part == 0 ? above : below) / divisorOf(above, below);
  }

  /** All that an image keeps: a street, where its doors stand, and what was told of it. */
  private static final class Scene {
    int doors;
    final int[] teeth = new int[MOST_DOORS];
    final int[] span = new int[MOST_DOORS];
    int fixed;
    int joins;
    int axles;
    final int[] joinOne = new int[MOST_JOINS];
    final int[] joinOther = new int[MOST_JOINS];
    final int[] joinKind = new int[MOST_JOINS];
    // A place above the line; what is below it follows from the street (Gears.below).
    final long[] spot = new long[MOST_DOORS];
    int wantedOpen;
    int wantedShut;
    int seenSet;
    final int[] seenTeeth = new int[MOST_DOORS];
    int comings;
    final int[] comingDoor = new int[MOST_COMINGS];
    int x;

    void clear() {
      doors = 0;
      fixed = 0;
      joins = 0;
      axles = 0;
      Arrays.fill(spot, 0L);
      wantedOpen = 0;
      wantedShut = 0;
      seenSet = 0;
      comings = 0;
      x = 0;
    }

    void copyFrom(Scene from) {
      doors = from.doors;
      fixed = from.fixed;
      joins = from.joins;
      axles = from.axles;
      wantedOpen = from.wantedOpen;
      wantedShut = from.wantedShut;
      seenSet = from.seenSet;
      comings = from.comings;
      x = from.x;
      System.arraycopy(from.teeth, 0, teeth, 0, MOST_DOORS);
      System.arraycopy(from.span, 0, span, 0, MOST_DOORS);
      System.arraycopy(from.joinOne, 0, joinOne, 0, MOST_JOINS);
      System.arraycopy(from.joinOther, 0, joinOther, 0, MOST_JOINS);
      System.arraycopy(from.joinKind, 0, joinKind, 0, MOST_JOINS);
      System.arraycopy(from.spot, 0, spot, 0, MOST_DOORS);
      System.arraycopy(from.seenTeeth, 0, seenTeeth, 0, MOST_DOORS);
      System.arraycopy(from.comingDoor, 0, comingDoor, 0, MOST_COMINGS);
    }

    boolean isDoor(int index) {
      return index >= 0 && index < doors;
    }

    boolean isSet(int set) {
      return set >= 0 && (set >>> doors) == 0;
    }

    void addDoor(int itsTeeth, int itsSpan) {
      if (doors < MOST_DOORS) {
        teeth[doors] = itsTeeth;
        span[doors] = itsSpan;
        doors++;
      }
    }

    void addJoin(int one, int other, int kind) {
      if (joins < MOST_JOINS) {
        joinOne[joins] = one;
        joinOther[joins] = other;
        joinKind[joins] = kind;
        joins++;
        axles += kind == AXLE ? 1 : 0;
      }
    }

    int joinsOf(int index) {
      int found = 0;
      for (int j = 0; j < joins; j++) {
        if (joinOne[j] == index || joinOther[j] == index) {
          found++;
        }
      }
      return found;
    }
  }

  /** A text while it is read, up to its first fault. */
  private static final class Script {
    static final int BAD_SIGN = 0;
    static final int BAD_NUMBER = 1;
    static final int TOO_DEEP = 2;
    static final int TOO_MANY_VALUES = 3;
    static final int TOO_MANY_CLAUSES = 4;
    static final int MOST_DIGITS = 5;

    final int[] bytes;
    int length;
    int at;
    int fault;

    Script(int[] bytes) {
      this.bytes = bytes;
    }

    void open(int newLength) {
      length = Math.min(newLength, bytes.length);
      at = 0;
      fault = 0;
    }

    boolean isSound() {
      return fault == 0;
    }

    void fail(int where, int kind) {
      if (fault == 0) {
        fault = 1 + 8 * where + kind;
      }
    }

    int byteAt(int index) {
      return index >= 0 && index < length ? bytes[index] : NONE;
    }

    /** The byte at hand behind all blanks; NONE at the end. */
    int nextSign() {
      while (at < length && bytes[at] == ' ') {
        at++;
      }
      return at < length ? bytes[at] : NONE;
    }

    boolean takeSign(char sign) {
      if (nextSign() != sign) {
        return false;
      }
      at++;
      return true;
    }

    boolean isAtDigit() {
      int sign = nextSign();
      return sign >= '0' && sign <= '9';
    }

    /** Whether just this word, as far as small letters go on, is at hand. */
    boolean isAtWord(String word) {
      nextSign();
      for (int i = 0; i < word.length(); i++) {
        if (byteAt(at + i) != word.charAt(i)) {
          return false;
        }
      }
      int behind = byteAt(at + word.length());
      return behind < 'a' || behind > 'z';
    }

    boolean takeWord(String word) {
      if (!isAtWord(word)) {
        return false;
      }
      at += word.length();
      return true;
    }

    /** A number that has to be at hand; NONE with its fault. */
    int takeNumber() {
      if (!isAtDigit()) {
        fail(at, BAD_SIGN);
        return NONE;
      }
      int start = at;
      int value = 0;
      while (at < length && bytes[at] >= '0' && bytes[at] <= '9') {
        if (at - start < MOST_DIGITS) {
          value = value * 10 + bytes[at] - '0';
        }
        at++;
      }
      if (at - start > MOST_DIGITS) {
        fail(start, BAD_NUMBER);
        return NONE;
      }
      return value;
    }

    /** Takes what parts two clauses: true for one more, false at the end or with a fault. */
    boolean takeClauseBreak() {
      if (takeSign(';')) {
        return true;
      }
      if (at < length) {
        fail(at, BAD_SIGN);
      }
      return false;
    }
  }

  /** Reads a street's text into a draft. */
  private static final class StreetReader {
    static final int LEAST_TEETH = 4;
    static final int MOST_TEETH = 60;
    static final int DOOR_CLAUSE = 3;
    static final int FIXED_CLAUSE = 4;

    final Script script;
    final Scene draft;

    StreetReader(Script script, Scene draft) {
      this.script = script;
      this.draft = draft;
    }

    void read() {
      draft.clear();
      boolean isMore = true;
      for (int n = 0; n <= STREET_CLAUSES && isMore; n++) {
        readClause(n);
        isMore = script.isSound() && script.takeClauseBreak();
      }
      if (draft.doors == 0) {
        script.fail(script.length, Script.BAD_SIGN);
      }
    }

    void readClause(int index) {
      int clause = clauseAtHand();
      if (clause == NONE) {
        script.fail(script.at, Script.BAD_SIGN);
      } else if (index >= STREET_CLAUSES || isFullFor(clause)) {
        script.fail(script.at, Script.TOO_MANY_CLAUSES);
      } else if (clause == DOOR_CLAUSE) {
        readDoor();
      } else if (clause == FIXED_CLAUSE) {
        readFixed();
      } else {
        readJoin(clause);
      }
    }

    /** The clause whose word is at hand (0 to 2: the kinds of joins); NONE for another. */
    int clauseAtHand() {
      if (script.isAtWord("mesh")) {
        return MESH;
      }
      if (script.isAtWord("belt")) {
        return 1;
      }
      if (script.isAtWord("axle")) {
        return AXLE;
      }
      if (script.isAtWord("door")) {
        return DOOR_CLAUSE;
      }
      return script.isAtWord("fixed") ? FIXED_CLAUSE : NONE;
    }

    boolean isFullFor(int clause) {
      if (clause == FIXED_CLAUSE) {
        return false;
      }
      if (clause == DOOR_CLAUSE) {
        return draft.doors >= MOST_DOORS;
      }
      return draft.joins >= MOST_JOINS || (clause == AXLE && draft.axles >= MOST_AXLES);
    }

    void readDoor() {
      script.takeWord("door");
      int teeth = numberWithin(LEAST_TEETH, MOST_TEETH, NONE);
      int span = script.isSound() ? numberWithin(0, teeth, NONE) : NONE;
      if (script.isSound()) {
        draft.addDoor(teeth, span);
      }
    }

    void readFixed() {
      script.takeWord("fixed");
      int door = numberWithin(0, draft.doors - 1, NONE);
      if (script.isSound()) {
        draft.fixed |= 1 << door;
      }
    }

    void readJoin(int kind) {
      // The words of all joins are of one length.
      script.at += "mesh".length();
      int one = numberWithin(0, draft.doors - 1, NONE);
      int other = script.isSound() ? numberWithin(0, draft.doors - 1, one) : NONE;
      if (script.isSound()) {
        draft.addJoin(one, other, kind);
      }
    }

    int numberWithin(int least, int most, int unlike) {
      script.nextSign();
      int start = script.at;
      int value = script.takeNumber();
      if (value < least || value > most || value == unlike) {
        script.fail(start, Script.BAD_NUMBER);
      }
      return value;
    }
  }

  /** The rules' code, sums and tests with their signs behind what they join, and its reckoning. */
  private static final class RuleBook {
    static final int DOOR = 0;
    static final int TEETH = 1;
    static final int SPAN = 2;
    static final int PLACE = 3;
    static final int OPEN = 4;
    static final int OPENS = 5;
    static final int JOINS = 6;
    static final int COMING = 7;
    static final int PLUS = 8;
    static final int MINUS = 9;
    static final int TIMES = 10;
    static final int BY = 11;
    static final int BELOW = 12;
    static final int AT_MOST = 13;
    static final int EQUAL = 14;
    static final int AT_LEAST = 15;
    static final int ABOVE = 16;
    static final int AND = 17;
    static final int OR = 18;
    static final int NOT = 19;
    static final int ALWAYS = 20;
    static final int WHEN = 21;
    static final int FIRST_NUMBER = 32;
    // No code is made but of a byte or more of the text, or of its end.
    static final int ROOM = MOST_BYTES + 1;

    final Gears gears;
    int rules;
    final int[] code = new int[MOST_RULES * ROOM];
    final int[] length = new int[MOST_RULES];
    final long[] stack = new long[MOST_BYTES];
    int height;

    RuleBook(Gears gears) {
      this.gears = gears;
    }

    void startDraft() {
      if (rules < MOST_RULES) {
        length[rules] = 0;
      }
    }

    void emit(int op) {
      if (rules < MOST_RULES && length[rules] < ROOM) {
        code[rules * ROOM + length[rules]] = op;
        length[rules]++;
      }
    }

    int keepDraft() {
      rules++;
      return rules - 1;
    }

    /** By how many teeth a rule has a door pushed; 0: not at all. */
    int teethFor(int rule, int door, int ahead) {
      if (rule < 0 || rule >= rules) {
        return 0;
      }
      height = 0;
      int from = rule * ROOM;
      for (int i = 0; i < length[rule]; i++) {
        int op = code[from + i];
        if (op >= FIRST_NUMBER) {
          put(op - FIRST_NUMBER);
        } else if (op <= COMING) {
          put(wordOf(op, door, ahead));
        } else if (op == NOT) {
          put(1 - take());
        } else if (op < NOT) {
          long right = take();
          put(joined(op, take(), right));
        } else if (op == ALWAYS || take() != 0) {
          return held(take());
        } else {
          take();
        }
      }
      return 0;
    }

    void put(long value) {
      if (height < stack.length) {
        stack[height] = value;
        height++;
      }
    }

    long take() {
      if (height <= 0) {
        return 0;
      }
      height--;
      return stack[height];
    }

    static int held(long teeth) {
      return (int) Math.max(-MOST_PUSH, Math.min(MOST_PUSH, teeth));
    }

    long wordOf(int word, int door, int ahead) {
      Scene scene = gears.scene;
      switch (word) {
        case DOOR:
          return door;
        case TEETH:
          return scene.teeth[door];
        case SPAN:
          return scene.span[door];
        case PLACE:
          return gears.wholeTeeth(door);
        case OPEN:
          return gears.isOpen(door) ? 1 : 0;
        case OPENS:
          return Integer.bitCount(gears.openSet());
        case JOINS:
          return scene.joinsOf(door);
        default:
          return ahead;
      }
    }

    static String spelling(int word) {
      switch (word) {
        case DOOR:
          return "door";
        case TEETH:
          return "teeth";
        case SPAN:
          return "span";
        case PLACE:
          return "place";
        case OPEN:
          return "open";
        case OPENS:
          return "opens";
        case JOINS:
          return "joins";
        default:
          return "coming";
      }
    }

    static int reckoningOf(int sign) {
      switch (sign) {
        case '+':
          return PLUS;
        case '-':
          return MINUS;
        case '*':
          return TIMES;
        case '/':
          return BY;
        default:
          return NONE;
      }
    }

    static int comparisonOf(int sign, boolean isWithEqual) {
      switch (sign) {
        case '<':
          return isWithEqual ? AT_MOST : BELOW;
        case '>':
          return isWithEqual ? AT_LEAST : ABOVE;
        case '=':
          return EQUAL;
        default:
          return NONE;
      }
    }

    /** How close a sign binds; 0 for what is none. */
    static int bondOf(int op) {
      if (op == TIMES || op == BY) {
        return 6;
      }
      if (op == PLUS || op == MINUS) {
        return 5;
      }
      if (op >= BELOW && op <= ABOVE) {
        return 4;
      }
      if (op == NOT) {
        return 3;
      }
      if (op == AND) {
        return 2;
      }
      return op == OR ? 1 : 0;
    }

    static long joined(int op, long left, long right) {
      switch (op) {
        case PLUS:
          return left + right;
        case MINUS:
          return left - right;
        case TIMES:
          return left * right;
        case BY:
          return right == 0 ? 0 : left / right;
        case AND:
          return left & right;
        case OR:
          return left | right;
        default:
          return holds(op, left, right) ? 1 : 0;
      }
    }

    static boolean holds(int op, long left, long right) {
      switch (op) {
        case BELOW:
          return left < right;
        case AT_MOST:
          return left <= right;
        case EQUAL:
          return left == right;
        case AT_LEAST:
          return left >= right;
        default:
          return left > right;
      }
    }
  }

  /** Reads a rule's text into the book's draft; signs wait until what they join is there. */
  private static final class RuleReader {
    static final int MOST_DEPTH = 10;
    static final int MOST_VALUES = 60;
    static final int BRACKET = 22;

    // What comes next; behind a value of each kind comes the number above.
    static final int PUSH_VALUE = 0;
    static final int PUSH_NEXT = 1;
    static final int LEFT_VALUE = 2;
    static final int LEFT_NEXT = 3;
    static final int RIGHT_VALUE = 4;
    static final int RIGHT_NEXT = 5;
    static final int FACT = 6;
    static final int FACT_NEXT = 7;
    static final int NOTHING = 8;

    final Script script;
    final RuleBook book;
    final int[] waiting = new int[MOST_BYTES];
    int waits;
    int depth;
    int brackets;
    int clauses;
    int values;
    int next;

    RuleReader(Script script, RuleBook book) {
      this.script = script;
      this.book = book;
    }

    void read() {
      waits = 0;
      depth = 0;
      brackets = 0;
      clauses = 0;
      values = 0;
      next = NOTHING;
      startClause();
      // Each round takes a byte or more, or is the last.
      for (int i = 0; i <= MOST_BYTES && script.isSound() && next != NOTHING; i++) {
        if (next == FACT && isOpener()) {
          readOpener();
        } else if (next % 2 == 0) {
          readValue();
        } else {
          readBehind();
        }
      }
    }

    void startClause() {
      if (!script.isAtWord("push")) {
        script.fail(script.at, Script.BAD_SIGN);
      } else if (clauses >= RULE_CLAUSES) {
        script.fail(script.at, Script.TOO_MANY_CLAUSES);
      } else {
        script.takeWord("push");
        clauses++;
        next = PUSH_VALUE;
      }
    }

    boolean isOpener() {
      return script.nextSign() == '[' || script.isAtWord("not");
    }

    void readOpener() {
      if (depth >= MOST_DEPTH) {
        script.fail(script.at, Script.TOO_DEEP);
      } else if (script.takeSign('[')) {
        brackets++;
        hold(BRACKET);
      } else {
        script.takeWord("not");
        hold(RuleBook.NOT);
      }
    }

    void readValue() {
      boolean isNumber = script.isAtDigit();
      int start = script.at;
      int op = isNumber ? RuleBook.FIRST_NUMBER + script.takeNumber() : takeValueWord();
      // A word or number that can't stand is told before one that is too many.
      if (script.isSound() && isRoomForValue(start)) {
        book.emit(op);
        next = next == FACT ? LEFT_NEXT : next + 1;
      }
    }

    int takeValueWord() {
      for (int word = RuleBook.DOOR; word <= RuleBook.COMING; word++) {
        if (script.takeWord(RuleBook.spelling(word))) {
          return word;
        }
      }
      script.fail(script.at, Script.BAD_SIGN);
      return NONE;
    }

    boolean isRoomForValue(int where) {
      if (values >= MOST_VALUES) {
        script.fail(where, Script.TOO_MANY_VALUES);
        return false;
      }
      values++;
      return true;
    }

    /** Reads what stands behind a value or a closed bracket. */
    void readBehind() {
      int sign = script.nextSign();
      int op = next == FACT_NEXT ? NONE : RuleBook.reckoningOf(sign);
      if (op != NONE) {
        script.at++;
        joinBy(op, next - 1);
      } else if (next == LEFT_NEXT) {
        readComparison(sign);
      } else if (next == PUSH_NEXT && script.takeWord("if")) {
        settle(RuleBook.OR);
        next = FACT;
      } else if (next != PUSH_NEXT && script.takeWord("and")) {
        joinBy(RuleBook.AND, FACT);
      } else if (next != PUSH_NEXT && script.takeWord("or")) {
        joinBy(RuleBook.OR, FACT);
      } else if (brackets > 0) {
        readClosing();
      } else {
        endClause();
      }
    }

    void readComparison(int sign) {
      boolean isWithEqual = script.byteAt(script.at + 1) == '=';
      int op = RuleBook.comparisonOf(sign, isWithEqual);
      if (op == NONE) {
        script.fail(script.at, Script.BAD_SIGN);
      } else if (isRoomForValue(script.at)) {
        script.at += op == RuleBook.AT_MOST || op == RuleBook.AT_LEAST ? 2 : 1;
        joinBy(op, RIGHT_VALUE);
      }
    }

    void readClosing() {
      if (!script.takeSign(']')) {
        script.fail(script.at, Script.BAD_SIGN);
        return;
      }
      settle(RuleBook.OR);
      if (waits > 0) {
        waits--;
        depth--;
        brackets--;
      }
      next = FACT_NEXT;
    }

    void endClause() {
      settle(RuleBook.OR);
      book.emit(next == PUSH_NEXT ? RuleBook.ALWAYS : RuleBook.WHEN);
      next = NOTHING;
      if (script.takeClauseBreak()) {
        startClause();
      }
    }

    void joinBy(int op, int newNext) {
      settle(op);
      hold(op);
      next = newNext;
    }

    void hold(int op) {
      if (waits < waiting.length) {
        waiting[waits] = op;
        waits++;
        depth += op == BRACKET || op == RuleBook.NOT ? 1 : 0;
      }
    }

    /** Puts down the waiting signs, up to the last open bracket, that bind as a sign does, or more. */
    void settle(int op) {
      int bond = RuleBook.bondOf(op);
      for (int i = waits - 1; i >= 0 && RuleBook.bondOf(waiting[i]) >= bond; i--) {
        book.emit(waiting[i]);
        depth -= waiting[i] == RuleBook.NOT ? 1 : 0;
        waits = i;
      }
    }
  }

  /** How a scene's doors hang together, and what a push of one does to the others. */
  private static final class Gears {
    final Scene scene;
    final int[] least = new int[MOST_DOORS];
    // The teeth that a door turns when the least door of its set turns by 1, as a fraction.
    final long[] ratioAbove = new long[MOST_DOORS];
    final long[] ratioBelow = new long[MOST_DOORS];
    // Below the line of each door's place, such that no push needs another.
    final long[] below = new long[MOST_DOORS];
    final long[] step = new long[MOST_DOORS * MOST_DOORS];
    final long[] keptSpots = new long[MOST_DOORS];
    int locked;
    int sets;

    Gears(Scene scene) {
      this.scene = scene;
      Arrays.fill(below, 1L);
    }

    /** Works out all that follows from the street. */
    void fit() {
      hang(0);
      measure();
    }

    /** Finds the sets of joined doors, and the locked ones, as if some joins were not there. */
    void hang(int without) {
      Arrays.fill(least, NONE);
      sets = 0;
      locked = 0;
      for (int d = 0; d < scene.doors; d++) {
        if (least[d] == NONE) {
          gather(d, without);
          sets++;
        }
      }
      for (int j = 0; j < scene.joins; j++) {
        if (bitOf(without, j) == 0 && !agrees(j)) {
          locked |= setOf(scene.joinOne[j]);
        }
      }
    }

    void gather(int first, int without) {
      least[first] = first;
      ratioAbove[first] = 1;
      ratioBelow[first] = 1;
      boolean isMore = true;
      for (int round = 0; round < MOST_DOORS && isMore; round++) {
        isMore = false;
        for (int j = 0; j < scene.joins; j++) {
          if (bitOf(without, j) == 0) {
            int one = scene.joinOne[j];
            int other = scene.joinOther[j];
            isMore |= hangOn(first, one, other, scene.joinKind[j]);
            isMore |= hangOn(first, other, one, scene.joinKind[j]);
          }
        }
      }
    }

    /** Hangs a door that has no set yet on one of the first door's set. */
    boolean hangOn(int first, int from, int to, int kind) {
      if (least[from] != first || least[to] != NONE) {
        return false;
      }
      least[to] = first;
      long above = ratioAbove[from];
      long under = ratioBelow[from];
      if (kind == MESH) {
        above = -above;
      } else if (kind == AXLE) {
        above *= scene.teeth[to];
        under *= scene.teeth[from];
      }
      long divisor = divisorOf(above, under);
      ratioAbove[to] = above / divisor;
      ratioBelow[to] = under / divisor;
      return true;
    }

    boolean agrees(int join) {
      int one = scene.joinOne[join];
      int other = scene.joinOther[join];
      int kind = scene.joinKind[join];
      long due = ratioAbove[one] * ratioBelow[other];
      long is = ratioAbove[other] * ratioBelow[one];
      if (kind == MESH) {
        due = -due;
      } else if (kind == AXLE) {
        due *= scene.teeth[other];
        is *= scene.teeth[one];
      }
      return due == is;
    }

    int setOf(int door) {
      int set = 0;
      for (int d = 0; d < scene.doors; d++) {
        if (least[d] == least[door]) {
          set |= 1 << d;
        }
      }
      return set;
    }

    void measure() {
      for (int d = 0; d < scene.doors; d++) {
        below[d] = 1;
        for (int pusher = 0; pusher < scene.doors; pusher++) {
          if (canTurn(pusher, d)) {
            long under = ratioOf(pusher, d, 1);
            below[d] = below[d] / divisorOf(below[d], under) * under;
          }
        }
        for (int pusher = 0; pusher < scene.doors; pusher++) {
          long under = canTurn(pusher, d) ? ratioOf(pusher, d, 1) : 0;
          long pace = under > 0 ? ratioOf(pusher, d, 0) * (below[d] / under) : 0;
          step[pusher * MOST_DOORS + d] = pace;
        }
      }
    }

    boolean canTurn(int pusher, int door) {
      return least[pusher] == least[door] && bitOf(locked, door) == 0;
    }

    /** A part of the ratio of one door to another one of its set, which is not locked. */
    long ratioOf(int one, int other, int part) {
      long above = ratioAbove[other] * ratioBelow[one];
      long under = ratioBelow[other] * ratioAbove[one];
      return under < 0 ? lowest(-above, -under, part) : lowest(above, under, part);
    }

    /** How far a push by 1 turns a door, in parts of its below. */
    long stepOf(int pusher, int door) {
      return step[pusher * MOST_DOORS + door];
    }

    int tryPush(int door, int n) {
      if (bitOf(scene.fixed, door) == 1) {
        return IS_FIXED;
      }
      if (bitOf(locked, door) == 1) {
        return IS_LOCKED;
      }
      int turned = 0;
      for (int d = 0; d < scene.doors; d++) {
        if (least[d] == least[door]) {
          if (isBeyond(d, scene.spot[d] + n * stepOf(door, d))) {
            return JAMS - d;
          }
          turned++;
        }
      }
      return turned;
    }

    /** Turns all that hang on a door; only behind a tryPush that can be. */
    void turnSet(int door, int n) {
      for (int d = 0; d < scene.doors; d++) {
        if (least[d] == least[door]) {
          scene.spot[d] += n * stepOf(door, d);
        }
      }
    }

    boolean isBeyond(int door, long spot) {
      if (scene.span[door] == 0) {
        return false;
      }
      return spot < 0 || spot > scene.span[door] * below[door];
    }

    boolean isOpen(int door) {
      return isOpenAt(door, scene.spot[door]);
    }

    boolean isOpenAt(int door, long spot) {
      if (scene.span[door] > 0) {
        return 2 * spot >= scene.span[door] * below[door];
      }
      long round = scene.teeth[door] * below[door];
      return round > 0 && 2 * Math.floorMod(spot, round) < round;
    }

    int openSet() {
      int open = 0;
      for (int d = 0; d < scene.doors; d++) {
        open |= isOpenAt(d, scene.spot[d]) ? 1 << d : 0;
      }
      return open;
    }

    long wholeTeeth(int door) {
      return below[door] > 0 ? Math.floorDiv(scene.spot[door], below[door]) : 0;
    }

    void keepSpots() {
      System.arraycopy(scene.spot, 0, keptSpots, 0, MOST_DOORS);
    }

    void takeSpotsBack() {
      System.arraycopy(keptSpots, 0, scene.spot, 0, MOST_DOORS);
    }
  }

  /** Looks for the fewest joins to cut. */
  private static final class Cutter {
    static final int MOST_CUTS = 3;
    // So many sets of three joins there are among sixteen.
    static final int MOST_SETS = 560;
    static final int NOT_WITH_THREE = -2;

    final Scene scene;
    final Gears rest;
    int one;
    int other;

    Cutter(Scene scene) {
      this.scene = scene;
      this.rest = new Gears(scene);
    }

    /** The joins without which two doors part or, if the other is NONE, the one is not locked. */
    int fewest(int newOne, int newOther) {
      one = newOne;
      other = newOther;
      int all = 1 << scene.joins;
      for (int size = 1; size <= MOST_CUTS; size++) {
        int set = (1 << size) - 1;
        for (int tries = 0; tries < MOST_SETS && set < all; tries++) {
          if (isEnough(set)) {
            return set;
          }
          set = nextOfSize(set);
        }
      }
      return NOT_WITH_THREE;
    }

    /** The next greater set, as a number, of as many. */
    static int nextOfSize(int set) {
      int lowest = set & -set;
      if (lowest == 0) {
        return 1 << MOST_JOINS;
      }
      int carried = set + lowest;
      return carried | ((set ^ carried) >>> 2) / lowest;
    }

    boolean isEnough(int without) {
      rest.hang(without);
      if (other == NONE) {
        return bitOf(rest.locked, one) == 0;
      }
      return rest.least[one] != rest.least[other];
    }
  }

  /** Looks for the fewest pushes behind which all is as wanted. */
  private static final class Planner {
    static final int NO_WAY = -2;
    static final int UNKNOWN = -3;
    static final int GO_ON = -4;
    static final int MOST_STATES = 2000;
    static final int TABLE = 4096;
    static final long FAR = 1L << 60;

    final Scene scene;
    final Gears gears;
    // All doors of a set turn as one: how far its least door is from now tells the whole state.
    final long[] turn = new long[MOST_STATES];
    final int[] parent = new int[MOST_STATES];
    final int[] pushCode = new int[MOST_STATES];
    final int[] table = new int[TABLE];
    int states;
    int freeSlot;
    int askedPush;
    // The set that is looked at: its least door, and its shares of the told sets.
    int first;
    int wantedOpen;
    int wantedShut;
    int pushers;
    int watchers;
    long lowTurn;
    long highTurn;

    Planner(Scene scene, Gears gears) {
      this.scene = scene;
      this.gears = gears;
    }

    /** The fewest pushes, NO_WAY or UNKNOWN; the k-th push is in askedPush. */
    int solve(int touched, int watched, int k) {
      int pushes = 0;
      boolean isUnknown = false;
      askedPush = NO_WAY;
      for (int d = 0; d < scene.doors; d++) {
        if (gears.least[d] == d) {
          choose(d, touched, watched);
          int found = isAsWanted(0) ? 0 : search();
          if (found == NO_WAY) {
            return NO_WAY;
          }
          isUnknown |= found == UNKNOWN;
          if (found > 0) {
            pushes += followBack(found, k - pushes);
          }
        }
      }
      return isUnknown ? UNKNOWN : pushes;
    }

    void choose(int door, int touched, int watched) {
      int set = gears.setOf(door);
      first = door;
      wantedOpen = scene.wantedOpen & set;
      wantedShut = scene.wantedShut & set;
      watchers = watched & set;
      pushers = 0;
      for (int d = 0; d < scene.doors; d++) {
        boolean isFree = bitOf(touched & set, d) == 1 && bitOf(scene.fixed | gears.locked, d) == 0;
        if (isFree && !isPushedAlike(d)) {
          pushers |= 1 << d;
        }
      }
      bound(set);
    }

    /** A door as quick as an earlier pusher leads to no state that this one does not lead to. */
    boolean isPushedAlike(int door) {
      long pace = Math.abs(gears.stepOf(door, first));
      for (int d = 0; d < door; d++) {
        if (bitOf(pushers, d) == 1 && Math.abs(gears.stepOf(d, first)) == pace) {
          return true;
        }
      }
      return false;
    }

    /** Works out how far the set can turn before a door with a span comes beyond. */
    void bound(int set) {
      lowTurn = -FAR;
      highTurn = FAR;
      for (int d = 0; d < scene.doors; d++) {
        long pace = gears.stepOf(first, d);
        if (bitOf(set, d) == 1 && scene.span[d] > 0 && pace != 0) {
          long back = scene.spot[d] * gears.below[first];
          long ahead = scene.span[d] * gears.below[d] * gears.below[first] - back;
          long quick = Math.abs(pace);
          long up = (pace > 0 ? ahead : back) / quick;
          long down = (pace > 0 ? back : ahead) / quick;
          highTurn = Math.min(highTurn, up);
          lowTurn = Math.max(lowTurn, -down);
        }
      }
    }

    int search() {
      Arrays.fill(table, 0);
      states = 0;
      isKnown(0);
      addState(0, NONE, 0);
      for (int from = 0; from < states && from < MOST_STATES; from++) {
        for (int d = 0; d < scene.doors; d++) {
          int found = bitOf(pushers, d) == 1 ? spread(from, d) : GO_ON;
          if (found != GO_ON) {
            return found;
          }
        }
      }
      return NO_WAY;
    }

    /** Adds all states that pushes of one door lead to: GO_ON, UNKNOWN, or the one as wanted. */
    int spread(int from, int door) {
      long pace = gears.stepOf(door, first);
      for (int n = -MOST_PUSH; n <= MOST_PUSH; n++) {
        long next = turn[from] + n * pace;
        if (next < lowTurn || next > highTurn || isKnown(next) || isWatchedOpen(next)) {
          continue;
        }
        if (states >= MOST_STATES) {
          return UNKNOWN;
        }
        addState(next, from, 1000 * door + 100 + n);
        if (isAsWanted(next)) {
          return states - 1;
        }
      }
      return GO_ON;
    }

    /** Whether a state came already; else freeSlot is where it belongs. */
    boolean isKnown(long itsTurn) {
      int slot = (int) ((itsTurn * -7046029254386353131L) >>> 52);
      for (int i = 0; i < TABLE; i++) {
        int entry = table[slot];
        if (entry == 0) {
          freeSlot = slot;
          return false;
        }
        if (turn[entry - 1] == itsTurn) {
          return true;
        }
        slot = (slot + 1) & (TABLE - 1);
      }
      return true;
    }

    void addState(long itsTurn, int from, int itsPush) {
      turn[states] = itsTurn;
      parent[states] = from;
      pushCode[states] = itsPush;
      states++;
      table[freeSlot] = states;
    }

    boolean isWatchedOpen(long itsTurn) {
      for (int d = first; d < scene.doors; d++) {
        if (bitOf(watchers, d) == 1 && isOpenBehind(d, itsTurn)) {
          return true;
        }
      }
      return false;
    }

    boolean isAsWanted(long itsTurn) {
      for (int d = first; d < scene.doors; d++) {
        boolean isOpen = bitOf(wantedOpen | wantedShut, d) == 1 && isOpenBehind(d, itsTurn);
        if ((bitOf(wantedOpen, d) == 1 && !isOpen) || (bitOf(wantedShut, d) == 1 && isOpen)) {
          return false;
        }
      }
      return true;
    }

    boolean isOpenBehind(int door, long itsTurn) {
      long under = gears.below[first];
      long turned = under > 0 ? itsTurn * gears.stepOf(first, door) / under : 0;
      return gears.isOpenAt(door, scene.spot[door] + turned);
    }

    /** How many pushes led to a state; the asked one of them is kept. */
    int followBack(int state, int asked) {
      int pushes = 0;
      for (int s = state; s > 0 && pushes < MOST_STATES; s = parent[s]) {
        pushes++;
      }
      int s = state;
      for (int k = pushes - 1; k >= 0 && s > 0; k--) {
        if (k == asked) {
          askedPush = pushCode[s];
        }
        s = parent[s];
      }
      return pushes;
    }
  }

  /** What days were like. */
  private static final class Diary {
    final Gears gears;
    final RuleBook book;
    int passes;
    int pushed;
    int refused;
    // By how many teeth each door turned, above the line of its place.
    final long[] wear = new long[MOST_DOORS];

    Diary(Gears gears, RuleBook book) {
      this.gears = gears;
      this.book = book;
    }

    void clear() {
      passes = 0;
      pushed = 0;
      refused = 0;
      Arrays.fill(wear, 0L);
    }

    void spend(int rule, int[] doors, int number) {
      for (int i = 0; i < number && i < doors.length; i++) {
        int door = doors[i];
        if (gears.scene.isDoor(door)) {
          if (!gears.isOpen(door)) {
            pushBy(book.teethFor(rule, door, i), door);
          }
          passes += gears.isOpen(door) ? 1 : 0;
        }
      }
    }

    void pushBy(int n, int door) {
      if (n == 0) {
        return;
      }
      if (gears.tryPush(door, n) <= 0) {
        refused++;
        return;
      }
      gears.turnSet(door, n);
      pushed++;
      for (int d = 0; d < gears.scene.doors; d++) {
        if (gears.least[d] == gears.least[door]) {
          wear[d] += Math.abs(n * gears.stepOf(door, d));
        }
      }
    }

    int tally(int what) {
      if (what == 0) {
        return passes;
      }
      return what == 1 ? pushed : refused;
    }
  }
}
