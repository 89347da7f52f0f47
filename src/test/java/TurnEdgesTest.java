/** The edges of places and pushes: the sentences of parts I and II, and promises 6 to 13. */
public final class TurnEdgesTest extends Bench {
  private static final String TWELVE = "door 4 0;".repeat(11) + "door 4 0";
  private static final int[] NO_DOORS_OF_TWO = {-1, 2, 11, 12, 31, 32, 33, MANY, FEW};

  public static void main(String[] args) {
    placesAtFirst();
    openSpans();
    openSpansByFractions();
    openMills();
    openMillsByFractions();
    teethOfPush();
    spanOfPush();
    spanByFractions();
    orderOfRefusals();
    leastJam();
    nothingTurns();
    pushWithoutThese();
    cans();
    reaches();
    reachesHeld();
    slips();
    slipsOfFractions();
    doorsWithoutThese();
    placesWithoutThese();
    lowestTerms();
    joinsWithoutThese();
    ratiosWithoutThese();
    lockedRings();
    finish();
  }

  /** A door of 4 teeth and a mill of 60 on its axle, that turns it by 1/15 at a push by 1. */
  private static DoorsOnCogs slow() {
    return told("door 4 4;door 60 0;axle 0 1");
  }

  private static void placesAtFirst() {
    sentence("The PLACE of a DOOR is a number of its TEETH, a fraction, 0 at first");
    DoorsOnCogs x = told(TWELVE);
    for (int d = 0; d < 12; d++) {
      duePlace(x, d, 0, 1);
    }
    street(x, "door 9 9");
    x.push(0, 5);
    street(x, "door 9 9");
    duePlace(x, 0, 0, 1);
  }

  private static void openSpans() {
    sentence("A DOOR with a SPAN is OPEN if twice its PLACE is its SPAN at least");
    for (int span : new int[] {1, 2, 3, 4, 5, 10, 11, 59, 60}) {
      DoorsOnCogs x = told("door 60 " + span);
      for (int place = 0; place <= span; place++) {
        due("door(0, 3) at " + place + " of " + span, x.door(0, 3), bit(place + place >= span));
        due("count(3) at " + place + " of " + span, x.count(3), bit(place + place >= span));
        x.slip(0, 1);
      }
    }
  }

  private static void openSpansByFractions() {
    sentence("A DOOR with a SPAN is OPEN if twice its PLACE is its SPAN at least (a fraction)");
    // The mill's push by 1 turns the door by 1/2: 5/2 is half of 5.
    DoorsOnCogs half = told("door 10 5;door 20 0;axle 0 1");
    half.push(1, 4);
    due("door(0, 3) at 2 of 5", half.door(0, 3), 0);
    half.push(1, 1);
    duePlace(half, 0, 5, 2);
    due("door(0, 3) at 5/2 of 5", half.door(0, 3), 1);
    DoorsOnCogs x = slow();
    x.push(1, 29);
    duePlace(x, 0, 29, 15);
    due("door(0, 3) at 29/15 of 4", x.door(0, 3), 0);
    x.push(1, 1);
    due("door(0, 3) at 2 of 4", x.door(0, 3), 1);
  }

  private static void openMills() {
    sentence("a MILL, if twice what is over of its PLACE by its TEETH (0 and above) is below its "
        + "TEETH");
    int[][] want = {{4, 0, 1}, {4, 1, 1}, {4, 2, 0}, {4, 3, 0}, {4, 4, 1}, {4, 5, 1}, {4, 6, 0},
        {4, 60, 1}, {4, -1, 0}, {4, -2, 0}, {4, -3, 1}, {4, -4, 1}, {4, -5, 0}, {4, -60, 1},
        {5, 2, 1}, {5, 3, 0}, {5, 4, 0}, {5, 5, 1}, {5, -1, 0}, {5, -2, 0}, {5, -3, 1},
        {59, 29, 1}, {59, 30, 0}, {59, 58, 0}, {59, 59, 1}, {59, -29, 0}, {59, -30, 1},
        {60, 29, 1}, {60, 30, 0}, {60, 59, 0}, {60, 60, 1}, {60, -1, 0}, {60, -30, 0},
        {60, -31, 1}, {60, -60, 1}};
    for (int[] w : want) {
      DoorsOnCogs x = told("door " + w[0] + " 0");
      due("slip(0, " + w[1] + ")", x.slip(0, w[1]), true);
      due("door(0, 3) at " + w[1] + " of " + w[0], x.door(0, 3), w[2]);
    }
  }

  private static void openMillsByFractions() {
    sentence("a MILL, if twice what is over of its PLACE by its TEETH (0 and above) is below its "
        + "TEETH (a fraction)");
    DoorsOnCogs x = told("door 5 0;door 10 0;axle 0 1");
    int[] open = {1, 1, 1, 1, 1, 0, 0, 0, 0, 0, 1};
    for (int halves = 0; halves <= 10; halves++) {
      due("door(0, 3) at " + halves + "/2 of 5", x.door(0, 3), open[halves]);
      x.push(1, 1);
    }
    DoorsOnCogs back = told("door 5 0;door 10 0;axle 0 1");
    int[] openBack = {1, 0, 0, 0, 0, 0, 1, 1, 1, 1, 1, 0};
    for (int halves = 0; halves <= 11; halves++) {
      due("door(0, 3) at -" + halves + "/2 of 5", back.door(0, 3), openBack[halves]);
      back.push(1, -1);
    }
  }

  private static void teethOfPush() {
    sentence("A PUSH of a DOOR by n teeth (-60 to 60, not 0)");
    DoorsOnCogs x = told("door 9 0");
    due("push(0, 60)", x.push(0, 60), 1);
    duePlace(x, 0, 60, 1);
    due("push(0, -60)", x.push(0, -60), 1);
    duePlace(x, 0, 0, 1);
    due("push(0, 1)", x.push(0, 1), 1);
    due("push(0, -1)", x.push(0, -1), 1);
    for (int n : new int[] {0, 61, -61, 256, MANY, FEW}) {
      due("push(0, " + n + ")", x.push(0, n), NONE);
      due("can(0, " + n + ")", x.can(0, n), NONE);
      duePlace(x, 0, 0, 1);
    }
  }

  private static void spanOfPush() {
    sentence("a DOOR with a SPAN may not come below 0 or above its SPAN");
    DoorsOnCogs x = told("door 60 60;door 10 6;door 9 1");
    due("push(0, -1) at 0", x.push(0, -1), -10);
    due("push(0, 60) at 0", x.push(0, 60), 1);
    due("push(0, 1) at 60", x.push(0, 1), -10);
    due("push(0, -60) at 60", x.push(0, -60), 1);
    due("push(1, 7) at 0", x.push(1, 7), -11);
    due("push(1, 6) at 0", x.push(1, 6), 1);
    due("push(1, -7) at 6", x.push(1, -7), -11);
    due("push(1, -6) at 6", x.push(1, -6), 1);
    due("push(2, 2) at 0", x.push(2, 2), -12);
    due("push(2, 1) at 0", x.push(2, 1), 1);
    duePlace(x, 2, 1, 1);
  }

  private static void spanByFractions() {
    sentence("a DOOR with a SPAN may not come below 0 or above its SPAN (a fraction)");
    DoorsOnCogs x = slow();
    due("push(1, -1), below 0 by 1/15", x.push(1, -1), -10);
    due("push(1, 60), to 4", x.push(1, 60), 2);
    duePlace(x, 0, 4, 1);
    due("push(1, 1), above 4 by 1/15", x.push(1, 1), -10);
    due("push(1, -59), to 1/15", x.push(1, -59), 2);
    duePlace(x, 0, 1, 15);
    due("push(1, -2), below 0 by 1/15", x.push(1, -2), -10);
    due("push(0, 4), above 4 by 1/15", x.push(0, 4), -10);
    due("push(0, 3), to 46/15", x.push(0, 3), 2);
    duePlace(x, 0, 46, 15);
    duePlace(x, 1, 46, 1);
  }

  private static void orderOfRefusals() {
    sentence("It can't be: the DOOR is fixed; else it is LOCKED; else it JAMS");
    // Fixed, locked and at its end, all at once and then one less each time.
    DoorsOnCogs all = told("door 9 9;door 9 9;mesh 0 1;belt 0 1;fixed 0");
    due("push(0, -1), fixed, locked, beyond", all.push(0, -1), -2);
    due("push(1, -1), locked, beyond", all.push(1, -1), -3);
    DoorsOnCogs jam = told("door 9 9;door 9 9;belt 0 1;fixed 0");
    due("push(0, -1), fixed, beyond", jam.push(0, -1), -2);
    due("push(1, -1), beyond", jam.push(1, -1), -10);
    due("push(1, 1), one on the belt is fixed", jam.push(1, 1), 2);
    duePlace(jam, 0, 1, 1);
    sentence("NONE without these, ahead of what can't be");
    due("push(0, 0), fixed", all.push(0, 0), NONE);
    due("push(0, 61), fixed", all.push(0, 61), NONE);
    due("push(1, -61), locked", all.push(1, -61), NONE);
  }

  private static void leastJam() {
    sentence("it JAMS at the least DOOR that would come beyond");
    DoorsOnCogs x = told("door 9 9;door 9 6;door 9 3;belt 0 1;belt 1 2");
    due("push(2, 3)", x.can(2, 3), 3);
    due("push(2, 4), at 2 alone", x.push(2, 4), -12);
    due("push(0, 6)", x.push(0, 6), -12);
    due("push(0, 7), at 1 and 2", x.push(0, 7), -11);
    due("push(2, 9)", x.push(2, 9), -11);
    due("push(2, 10), at all", x.push(2, 10), -10);
    due("push(2, -1), at all", x.push(2, -1), -10);
    DoorsOnCogs last = told("door 4 0;".repeat(11) + "door 4 4;mesh 0 11");
    due("push(0, 1), at the last of 12", last.push(0, 1), -21);
    due("push(11, -1), at the last of 12", last.push(11, -1), -21);
    due("push(0, -4)", last.push(0, -4), 2);
    due("push(0, -1)", last.push(0, -1), -21);
  }

  private static void nothingTurns() {
    sentence("it JAMS (nothing turns then)");
    DoorsOnCogs x = told("door 9 0;door 9 9;door 9 3;belt 0 1;belt 1 2");
    x.push(0, 2);
    due("push(0, 2)", x.push(0, 2), -12);
    for (int d = 0; d < 3; d++) {
      duePlace(x, d, 2, 1);
    }
    due("push(0, 1)", x.push(0, 1), 3);
    for (int d = 0; d < 3; d++) {
      duePlace(x, d, 3, 1);
    }
  }

  private static void pushWithoutThese() {
    sentence("how many DOORS turned; NONE without these");
    DoorsOnCogs x = told("door 9 0;door 9 0");
    for (int d : NO_DOORS_OF_TWO) {
      due("push(" + d + ", 1)", x.push(d, 1), NONE);
      due("can(" + d + ", 1)", x.can(d, 1), NONE);
    }
    due("push(1, 1), one", x.push(1, 1), 1);
    DoorsOnCogs twelve = told(TWELVE + ";belt 0 1;belt 1 2;belt 2 3;belt 3 4;belt 4 5;belt 5 6;"
        + "belt 6 7;belt 7 8;belt 8 9;belt 9 10;belt 10 11");
    due("push(11, 1), twelve", twelve.push(11, 1), 12);
    duePlace(twelve, 0, 1, 1);
    due("push(12, 1)", twelve.push(12, 1), NONE);
  }

  private static void cans() {
    sentence("As push, but nothing happens");
    DoorsOnCogs x = told("door 9 9;door 9 0;mesh 0 1;door 9 0;fixed 2;door 9 0;door 9 0;"
        + "mesh 3 4;belt 3 4");
    int[][] want = {{0, 9, 2}, {0, 10, -10}, {0, -1, -10}, {1, -9, 2}, {1, 1, -10}, {2, 1, -2},
        {3, 1, -3}, {4, -60, -3}, {0, 0, NONE}, {5, 1, NONE}};
    for (int[] w : want) {
      due("can(" + w[0] + ", " + w[1] + ")", x.can(w[0], w[1]), w[2]);
      duePlace(x, 0, 0, 1);
      duePlace(x, 1, 0, 1);
    }
  }

  private static void reaches() {
    sentence("How far a DOOR can be pushed (0: by none, or it is fixed, or LOCKED)");
    DoorsOnCogs x = told("door 10 6;door 9 9;fixed 1;door 9 0;door 9 0;mesh 2 3;belt 2 3");
    due("reach(0, false) at 0", x.reach(0, false), 6);
    due("reach(0, true) at 0", x.reach(0, true), 0);
    x.push(0, 1);
    due("reach(0, false) at 1", x.reach(0, false), 5);
    due("reach(0, true) at 1", x.reach(0, true), -1);
    x.push(0, 5);
    due("reach(0, false) at 6", x.reach(0, false), 0);
    due("reach(0, true) at 6", x.reach(0, true), -6);
    x.slip(1, 4);
    due("reach(1, false), fixed", x.reach(1, false), 0);
    due("reach(1, true), fixed", x.reach(1, true), 0);
    due("reach(2, false), locked", x.reach(2, false), 0);
    due("reach(3, true), locked", x.reach(3, true), 0);
    sentence("-100 without it");
    for (int d : new int[] {-1, 4, 12, 32, MANY, FEW}) {
      due("reach(" + d + ", false)", x.reach(d, false), -100);
      due("reach(" + d + ", true)", x.reach(d, true), -100);
    }
    due("reach(0, false) on a new object", new DoorsOnCogs().reach(0, false), -100);
  }

  private static void reachesHeld() {
    sentence("How far a DOOR can be pushed (held to -60 to 60)");
    DoorsOnCogs mill = told("door 4 0;door 60 60;door 60 59");
    due("reach(0, false), a mill", mill.reach(0, false), 60);
    due("reach(0, true), a mill", mill.reach(0, true), -60);
    due("reach(1, false), 60", mill.reach(1, false), 60);
    due("reach(2, false), 59", mill.reach(2, false), 59);
    DoorsOnCogs x = slow();
    due("reach(1, false), 60 fifteenths", x.reach(1, false), 60);
    x.push(1, 1);
    due("reach(1, false), 59 fifteenths", x.reach(1, false), 59);
    due("reach(1, true), 1 fifteenth", x.reach(1, true), -1);
    due("reach(0, false), 59 fifteenths", x.reach(0, false), 3);
    due("reach(0, true), 1 fifteenth", x.reach(0, true), 0);
    DoorsOnCogs far = told("door 5 5;door 60 0;axle 0 1;door 59 0;axle 0 2");
    due("reach(1, false), 60 of 5 teeth", far.reach(1, false), 60);
    due("reach(2, false), 59 of 5 teeth", far.reach(2, false), 59);
    DoorsOnCogs farther = told("door 4 4;door 60 0;axle 0 1;door 4 0;belt 1 2;door 60 0;axle 2 3");
    due("reach(3, false), 900 of 4 teeth", farther.reach(3, false), 60);
    DoorsOnCogs quick = told("door 60 60;door 4 0;axle 0 1");
    due("reach(1, false), 15 teeth at once", quick.reach(1, false), 4);
    quick.slip(0, 1);
    due("reach(1, false), 59 of 15 at once", quick.reach(1, false), 3);
    due("reach(1, true), 1 of 15 at once", quick.reach(1, true), 0);
  }

  private static void slips() {
    sentence("A DOOR SLIPS (n -60 to 60): true; false, and nothing happens, without these, or if "
        + "it would come beyond its SPAN");
    DoorsOnCogs x = told("door 9 0;door 9 6;belt 0 1");
    for (int n : new int[] {61, -61, MANY, FEW}) {
      due("slip(0, " + n + ")", x.slip(0, n), false);
      duePlace(x, 0, 0, 1);
    }
    due("slip(0, 60)", x.slip(0, 60), true);
    duePlace(x, 0, 60, 1);
    due("slip(0, -60)", x.slip(0, -60), true);
    due("slip(0, -60)", x.slip(0, -60), true);
    duePlace(x, 0, -60, 1);
    due("slip(0, 0)", x.slip(0, 0), true);
    duePlace(x, 0, -60, 1);
    due("slip(1, -1)", x.slip(1, -1), false);
    due("slip(1, 7)", x.slip(1, 7), false);
    duePlace(x, 1, 0, 1);
    due("slip(1, 6)", x.slip(1, 6), true);
    due("slip(1, 1)", x.slip(1, 1), false);
    due("slip(1, -7)", x.slip(1, -7), false);
    duePlace(x, 1, 6, 1);
    due("slip(1, -6)", x.slip(1, -6), true);
    duePlace(x, 1, 0, 1);
    duePlace(x, 0, -60, 1);
    for (int d : NO_DOORS_OF_TWO) {
      due("slip(" + d + ", 1)", x.slip(d, 1), false);
      due("slip(" + d + ", 0)", x.slip(d, 0), false);
    }
  }

  private static void slipsOfFractions() {
    sentence("it alone is at another PLACE, by n whole teeth (of its SPAN)");
    DoorsOnCogs x = slow();
    x.push(1, 1);
    due("slip(0, 4), above 4 by 1/15", x.slip(0, 4), false);
    due("slip(0, -1), below 0", x.slip(0, -1), false);
    duePlace(x, 0, 1, 15);
    due("slip(0, 3)", x.slip(0, 3), true);
    duePlace(x, 0, 46, 15);
    due("slip(0, -3)", x.slip(0, -3), true);
    duePlace(x, 0, 1, 15);
    duePlace(x, 1, 1, 1);
    DoorsOnCogs locked = told("door 9 9;door 9 9;mesh 0 1;belt 0 1;fixed 0");
    due("slip(0, 9), fixed and locked", locked.slip(0, 9), true);
    due("slip(0, 1), fixed and locked", locked.slip(0, 1), false);
    duePlace(locked, 0, 9, 1);
    duePlace(locked, 1, 0, 1);
  }

  private static void doorsWithoutThese() {
    sentence("Of a DOOR what 0 to 5; NONE without these");
    DoorsOnCogs x = told("door 4 0;door 60 60;fixed 1");
    due("door(0, 0)", x.door(0, 0), 4);
    due("door(1, 0)", x.door(1, 0), 60);
    due("door(0, 1)", x.door(0, 1), 0);
    due("door(1, 1)", x.door(1, 1), 60);
    due("door(0, 2)", x.door(0, 2), 0);
    due("door(1, 2)", x.door(1, 2), 1);
    due("door(1, 5)", x.door(1, 5), 1);
    for (int what : new int[] {-1, 6, 7, MANY, FEW}) {
      due("door(0, " + what + ")", x.door(0, what), NONE);
    }
    for (int d : NO_DOORS_OF_TWO) {
      for (int what = 0; what < 6; what++) {
        due("door(" + d + ", " + what + ")", x.door(d, what), NONE);
      }
    }
    DoorsOnCogs twelve = told(TWELVE);
    due("door(11, 5)", twelve.door(11, 5), 11);
    due("door(12, 5)", twelve.door(12, 5), NONE);
    sentence("the least DOOR JOINED with it (itself, too)");
    DoorsOnCogs chain = told("door 9 0;door 9 0;door 9 0;door 9 0;mesh 3 2;axle 1 3");
    int[] least = {0, 1, 1, 1};
    for (int d = 0; d < 4; d++) {
      due("door(" + d + ", 5)", chain.door(d, 5), least[d]);
    }
  }

  private static void placesWithoutThese() {
    sentence("The PLACE part 0, 1; -1000000000000 without these");
    DoorsOnCogs x = told("door 9 0;door 9 0");
    for (int part : new int[] {-1, 2, MANY, FEW}) {
      due("place(0, " + part + ")", x.place(0, part), NO_FRACTION);
    }
    for (int d : NO_DOORS_OF_TWO) {
      due("place(" + d + ", 0)", x.place(d, 0), NO_FRACTION);
      due("place(" + d + ", 1)", x.place(d, 1), NO_FRACTION);
    }
    duePlace(x, 1, 0, 1);
  }

  private static void lowestTerms() {
    sentence("in lowest terms; 0 by 1; below the line above 0");
    DoorsOnCogs x = told("door 4 0;door 60 0;axle 0 1;door 9 0;mesh 0 2");
    x.push(1, 3);
    duePlace(x, 0, 1, 5);
    duePlace(x, 2, -1, 5);
    x.push(1, 12);
    duePlace(x, 0, 1, 1);
    duePlace(x, 2, -1, 1);
    x.push(1, -16);
    duePlace(x, 0, -1, 15);
    duePlace(x, 2, 1, 15);
    x.push(1, 1);
    duePlace(x, 0, 0, 1);
    duePlace(x, 2, 0, 1);
    // Three axles of 60 to 4: the quickest turn, and the slowest.
    DoorsOnCogs far = told("door 60 0;door 4 0;axle 0 1;door 60 0;belt 1 2;door 4 0;axle 2 3;"
        + "door 60 0;mesh 3 4;door 4 0;axle 4 5");
    far.push(5, 60);
    duePlace(far, 0, -60 * 3375, 1);
    far.push(5, -60);
    far.push(0, 1);
    duePlace(far, 5, -1, 3375);
    duePlace(far, 3, 1, 225);
    far.push(0, 59);
    duePlace(far, 5, -4, 225);
  }

  private static void joinsWithoutThese() {
    sentence("Of a JOIN what 0 to 2; NONE without these");
    DoorsOnCogs x = told("door 9 0;door 9 0;axle 1 0");
    due("join(0, 0)", x.join(0, 0), 1);
    due("join(0, 1)", x.join(0, 1), 0);
    due("join(0, 2)", x.join(0, 2), 2);
    for (int what : new int[] {-1, 3, MANY, FEW}) {
      due("join(0, " + what + ")", x.join(0, what), NONE);
    }
    for (int j : new int[] {-1, 1, 15, 16, MANY, FEW}) {
      due("join(" + j + ", 0)", x.join(j, 0), NONE);
    }
    due("join(0, 0), a street without JOINS", told("door 9 0").join(0, 0), NONE);
  }

  private static void ratiosWithoutThese() {
    sentence("0 by 1 if they are not JOINED; -1000000000000 if they are LOCKED, or without these");
    DoorsOnCogs x = told("door 9 0;door 9 0;door 9 0;door 9 0;mesh 2 3;belt 2 3");
    int[][] want = {{0, 0, 1, 1}, {0, 1, 0, 1}, {1, 0, 0, 1}, {0, 2, 0, 1}, {3, 1, 0, 1}};
    for (int[] w : want) {
      due("ratio(" + w[0] + ", " + w[1] + ", 0)", x.ratio(w[0], w[1], 0), w[2]);
      due("ratio(" + w[0] + ", " + w[1] + ", 1)", x.ratio(w[0], w[1], 1), w[3]);
    }
    for (int part = 0; part < 2; part++) {
      due("ratio(2, 3), locked", x.ratio(2, 3, part), NO_FRACTION);
      due("ratio(2, 2), locked", x.ratio(2, 2, part), NO_FRACTION);
    }
    for (int part : new int[] {-1, 2, MANY, FEW}) {
      due("ratio(0, 0, " + part + ")", x.ratio(0, 0, part), NO_FRACTION);
      due("ratio(0, 1, " + part + ")", x.ratio(0, 1, part), NO_FRACTION);
    }
    for (int d : new int[] {-1, 4, 12, 32, MANY, FEW}) {
      due("ratio(" + d + ", 0, 0)", x.ratio(d, 0, 0), NO_FRACTION);
      due("ratio(0, " + d + ", 1)", x.ratio(0, d, 1), NO_FRACTION);
      due("ratio(" + d + ", " + d + ", 1)", x.ratio(d, d, 1), NO_FRACTION);
    }
  }

  private static void lockedRings() {
    sentence("LOCKED: JOINED DOORS among which by unlike JOINS some RATIO would be two numbers");
    String[] free = {"mesh 0 1;mesh 1 0", "belt 0 1;belt 0 1", "belt 0 1;belt 1 2;belt 2 0",
        "mesh 0 1;mesh 1 2;belt 2 0", "mesh 2 1;belt 0 1;mesh 0 2", "axle 0 1;axle 1 0", "axle 0 3;belt 0 3",
        "axle 0 1;axle 1 2;axle 2 0", "mesh 0 1;mesh 1 2;mesh 2 3;mesh 3 0"};
    for (String joins : free) {
      due("count(4) of " + joins, told(four() + joins).count(4), 0);
    }
    String[] ring = {"mesh 0 1;belt 1 0", "mesh 0 1;mesh 1 2;mesh 2 0", "axle 0 1;belt 0 1",
        "axle 0 3;mesh 0 3", "axle 0 1;axle 1 2;belt 2 0", "belt 0 1;belt 1 2;mesh 2 0",
        "mesh 2 1;belt 0 1;belt 0 2"};
    int[] locked = {3, 7, 3, 9, 7, 7, 7};
    for (int i = 0; i < ring.length; i++) {
      due("count(4) of " + ring[i], told(four() + ring[i]).count(4), locked[i]);
    }
    due("count(4), two rings", told(four() + "mesh 0 1;belt 1 0;mesh 2 3;belt 3 2").count(4), 15);
    due("count(4), a ring and one that turns", told(four() + "mesh 0 1;belt 1 0;mesh 2 3;mesh 3 2")
        .count(4), 3);
    due("count(4), what hangs on a ring", told(four() + "mesh 0 1;belt 1 0;axle 1 2;mesh 2 3")
        .count(4), 15);
  }

  private static String four() {
    return "door 8 0;door 9 0;door 10 0;door 8 0;";
  }
}
