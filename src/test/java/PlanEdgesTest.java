/** The edges of part III: wants, plans, joins to cut, wheels that slipped; promises 14 to 20. */
public final class PlanEdgesTest extends Bench {
  private static final int[] NO_SETS_OF_TWO = {-1, 4, 5, 4096, MANY, FEW};

  public static void main(String[] args) {
    wantedSets();
    wantsWithoutStreet();
    plansWithoutThese();
    rowsWithoutThese();
    fixedPushers();
    watchedDoors();
    watchedOfOtherSets();
    teethOfPlannedPush();
    spansOfPlan();
    statesThatEnd();
    stateThatIsWanted();
    statesFromNowOn();
    statesOfEachSet();
    setsTogether();
    setsThatNeedNone();
    lockedSets();
    statesOfMills();
    rowsInOrder();
    cutsOfThree();
    cutsByLastJoin();
    leastCuts();
    cutsWithoutThese();
    freesOfThree();
    leastFrees();
    freesWithoutThese();
    seenTeeth();
    seenNone();
    slippedTeeth();
    slippedFractions();
    noneNeeded();
    slippedWithoutThese();
    finish();
  }

  /**
   * Door 0, whose span is all its teeth, and door 4, that pushes it through two axles: door 4
   * turns by a * c / (b * d) when door 0 turns by 1. Door 5 is where door 0 is.
   */
  private static String chain(int span, int b, int a, int d, int c) {
    return "door " + span + " " + span + ";door " + b + " 0;belt 0 1;door " + a + " 0;axle 1 2;door "
        + d + " 0;belt 2 3;door " + c + " 0;axle 3 4;door " + span + " " + span + ";belt 0 5";
  }

  private static DoorsOnCogs two() {
    return told("door 10 6;door 10 6");
  }

  private static void wantedSets() {
    sentence("WANTED become these sets: true; false, and nothing happens, without these (DOORS, "
        + "0 and above; unlike)");
    DoorsOnCogs x = two();
    due("want(1, 2)", x.want(1, 2), true);
    for (int set : NO_SETS_OF_TWO) {
      due("want(" + set + ", 0)", x.want(set, 0), false);
      due("want(0, " + set + ")", x.want(0, set), false);
    }
    due("want(1, 1)", x.want(1, 1), false);
    due("want(3, 2)", x.want(3, 2), false);
    due("want(3, 3)", x.want(3, 3), false);
    due("count(10)", x.count(10), 1);
    due("count(11)", x.count(11), 2);
    due("want(0, 3)", x.want(0, 3), true);
    due("count(11)", x.count(11), 3);
    due("want(3, 0)", x.want(3, 0), true);
    due("count(10)", x.count(10), 3);
    due("want(0, 0)", x.want(0, 0), true);
    due("count(10)", x.count(10), 0);
    due("count(11)", x.count(11), 0);
    DoorsOnCogs twelve = told("door 4 0;".repeat(11) + "door 4 0");
    due("want(2048, 2047)", twelve.want(2048, 2047), true);
    due("want(4096, 0)", twelve.want(4096, 0), false);
    due("want(0, 4096)", twelve.want(0, 4096), false);
    due("want(4095, 0)", twelve.want(4095, 0), true);
  }

  private static void wantsWithoutStreet() {
    sentence("empty sets also without a STREET");
    DoorsOnCogs x = new DoorsOnCogs();
    due("want(0, 0)", x.want(0, 0), true);
    due("want(1, 0)", x.want(1, 0), false);
    due("want(0, 1)", x.want(0, 1), false);
    due("want(-1, 0)", x.want(-1, 0), false);
    due("count(10)", x.count(10), 0);
    due("count(11)", x.count(11), 0);
  }

  private static void plansWithoutThese() {
    sentence("PLANNED (sets of DOORS, 0 and above); NONE without these");
    DoorsOnCogs x = two();
    x.want(1, 0);
    for (int set : NO_SETS_OF_TWO) {
      due("planned(" + set + ", 0)", x.planned(set, 0), NONE);
      due("planned(3, " + set + ")", x.planned(3, set), NONE);
    }
    due("planned(3, 2)", x.planned(3, 2), 1);
    due("planned(3, 3)", x.planned(3, 3), -2);
    due("planned(0, 0)", x.planned(0, 0), -2);
    DoorsOnCogs twelve = told("door 4 0;".repeat(11) + "door 4 0");
    due("planned(4095, 4095)", twelve.planned(4095, 4095), 0);
    due("planned(4096, 0)", twelve.planned(4096, 0), NONE);
    due("planned(0, 4096)", twelve.planned(0, 4096), NONE);
    due("planned(0, 0) without a street", new DoorsOnCogs().planned(0, 0), NONE);
  }

  private static void rowsWithoutThese() {
    sentence("its k-th PUSH; -2: none, or it has not so many; NONE without these (k below 0, too)");
    DoorsOnCogs x = two();
    due("row(3, 0, 0), nothing wanted", x.row(3, 0, 0), -2);
    x.want(3, 0);
    due("row(3, 0, 0)", x.row(3, 0, 0), 103);
    due("row(3, 0, 1)", x.row(3, 0, 1), 1103);
    due("row(3, 0, 2)", x.row(3, 0, 2), -2);
    due("row(3, 0, MANY)", x.row(3, 0, MANY), -2);
    due("row(3, 0, -1)", x.row(3, 0, -1), NONE);
    due("row(3, 0, FEW)", x.row(3, 0, FEW), NONE);
    due("row(0, 0, -1), there is none", x.row(0, 0, -1), NONE);
    due("row(1, 0, 0), there is none", x.row(1, 0, 0), -2);
    for (int set : NO_SETS_OF_TWO) {
      due("row(" + set + ", 0, 0)", x.row(set, 0, 0), NONE);
      due("row(3, " + set + ", 0)", x.row(3, set, 0), NONE);
    }
    due("row(0, 0, 0) without a street", new DoorsOnCogs().row(0, 0, 0), NONE);
  }

  private static void fixedPushers() {
    sentence("a set of DOORS that may be pushed (none that is fixed)");
    DoorsOnCogs x = told("door 10 6;door 10 6;belt 0 1;fixed 0");
    x.want(1, 0);
    due("planned(1, 0), the fixed one alone", x.planned(1, 0), -2);
    due("planned(3, 0)", x.planned(3, 0), 1);
    due("row(3, 0, 0), by the other one", x.row(3, 0, 0), 1103);
    due("planned(2, 0)", x.planned(2, 0), 1);
    due("planned(0, 0), by nobody", x.planned(0, 0), -2);
  }

  private static void watchedDoors() {
    sentence("a set of which none must be OPEN behind a PUSH of DOORS JOINED with it (it may be "
        + "now)");
    // Open at 3 of 6 and at 5 of 10: door 1 is watched on the way of door 0.
    DoorsOnCogs x = told("door 10 10;door 10 6;belt 0 1");
    x.want(1, 0);
    due("planned(3, 0)", x.planned(3, 0), 1);
    due("planned(3, 2), it would be open first", x.planned(3, 2), -2);
    due("planned(3, 1), the wanted one", x.planned(3, 1), -2);
    // Door 1 is open now, and shut again where door 0 is open.
    DoorsOnCogs y = told("door 10 6;door 10 6;mesh 0 1");
    y.slip(1, 5);
    y.want(1, 0);
    due("row(1, 0, 0)", y.row(1, 0, 0), 103);
    due("row(1, 2, 0), open now", y.row(1, 2, 0), 103);
    y.slip(1, 1);
    due("row(1, 2, 0), open now, behind 3 too", y.row(1, 2, 0), 104);
    // It need not be pushed where all is as wanted, though a watched one is open.
    y.want(2, 0);
    due("planned(3, 2), open now and wanted", y.planned(3, 2), 0);
  }

  private static void watchedOfOtherSets() {
    sentence("a set of which none must be OPEN behind a PUSH of DOORS JOINED with it (others may)");
    DoorsOnCogs x = two();
    x.slip(1, 6);
    x.want(1, 0);
    due("planned(1, 2), open in another set", x.planned(1, 2), 1);
    x.want(1, 2);
    due("planned(3, 2), shut by its own push", x.planned(3, 2), 2);
    x.slip(0, 3);
    x.want(0, 1);
    due("row(1, 3, 0), both open now", x.row(1, 3, 0), 97);
  }

  private static void teethOfPlannedPush() {
    sentence("by DOORS that may be pushed, n from -60 to 60");
    // Half the span of door 0 are 30 teeth of door 1, and 60 of door 3.
    DoorsOnCogs sixty = told("door 8 8;door 60 0;axle 0 1;door 4 0;belt 1 2;door 8 0;axle 2 3");
    sixty.want(1, 0);
    due("planned(8, 0), by 60", sixty.planned(8, 0), 1);
    due("row(8, 0, 0), by 60", sixty.row(8, 0, 0), 3160);
    // Here they are 30 * 59 / 29, which is more than 61, of door 3.
    DoorsOnCogs more = told("door 8 8;door 60 0;axle 0 1;door 29 0;belt 1 2;door 59 0;axle 2 3");
    more.want(1, 0);
    due("planned(8, 0), by 62", more.planned(8, 0), 2);
    due("row(8, 0, 0), by 2 first", more.row(8, 0, 0), 3102);
    due("row(8, 0, 1), then by 60", more.row(8, 0, 1), 3160);
    more.slip(0, 8);
    more.want(0, 1);
    due("planned(8, 0), back by 62 or more", more.planned(8, 0), 2);
    due("row(8, 0, 0), back by 60 first", more.row(8, 0, 0), 3040);
    due("row(8, 0, 1), then by 60 first", more.row(8, 0, 1), 3040);
  }

  private static void spansOfPlan() {
    sentence("a DOOR with a SPAN may not come below 0 or above its SPAN (in a plan, too)");
    // The mill of 4 teeth is shut at 2 and 3, which a span of 2 lets it come to, and 1 does not.
    DoorsOnCogs one = told("door 4 0;door 4 1;belt 0 1");
    one.want(0, 1);
    due("planned(3, 0), a span of 1", one.planned(3, 0), -2);
    one.slip(1, 1);
    due("row(3, 0, 0), a span of 1 from its end", one.row(3, 0, 0), 99);
    DoorsOnCogs two = told("door 4 0;door 4 2;belt 0 1");
    two.want(0, 1);
    due("row(3, 0, 0), a span of 2", two.row(3, 0, 0), 102);
    DoorsOnCogs mesh = told("door 4 0;door 4 2;mesh 0 1");
    mesh.want(0, 1);
    due("row(3, 0, 0), a span of 2, the other way", mesh.row(3, 0, 0), 98);
    mesh.slip(1, 1);
    due("row(3, 0, 0), a span of 2 from its midst", mesh.row(3, 0, 0), 99);
  }

  private static void statesThatEnd() {
    sentence("2000 at most, the one now counted: if one more would come, and none so far is as "
        + "WANTED, it is UNKNOWN");
    // Door 0 open and its twin shut is never so: 1999 teeth and a bit for the whole span.
    DoorsOnCogs all = told(chain(51, 4, 56, 5, 14));
    all.want(1, 32);
    due("planned(16, 0), 2000 states, none as wanted", all.planned(16, 0), -2);
    due("row(16, 0, 0)", all.row(16, 0, 0), -2);
    DoorsOnCogs more = told(chain(60, 6, 60, 6, 20));
    more.want(1, 32);
    due("planned(16, 0), 2001 states", more.planned(16, 0), -3);
    due("row(16, 0, 0)", more.row(16, 0, 0), -3);
    due("row(16, 0, MANY)", more.row(16, 0, MANY), -3);
    due("row(16, 0, -1)", more.row(16, 0, -1), NONE);
    due("planned(0, 0), the one now alone", more.planned(0, 0), -2);
    DoorsOnCogs bit = told(chain(54, 4, 57, 5, 13));
    bit.want(1, 32);
    due("planned(16, 0), 2001 states and a bit", bit.planned(16, 0), -3);
    bit.slip(0, 1);
    bit.slip(5, 1);
    due("planned(16, 0), 2001 states from within", bit.planned(16, 0), -3);
    all.slip(0, 51);
    all.slip(5, 51);
    due("planned(16, 0), 2000 states from its end", all.planned(16, 0), -2);
  }

  private static void stateThatIsWanted() {
    sentence("2000 at most: and none so far is as WANTED");
    // Half the span of 53 is 1999 teeth, the 2000th state: 33 pushes by 60 and one by 19.
    DoorsOnCogs last = told(chain(53, 5, 60, 7, 44));
    last.want(1, 0);
    due("planned(16, 0), the 2000th state", last.planned(16, 0), 34);
    due("row(16, 0, 0)", last.row(16, 0, 0), 4119);
    for (int k = 1; k < 34; k++) {
      due("row(16, 0, " + k + ")", last.row(16, 0, k), 4160);
    }
    due("row(16, 0, 34)", last.row(16, 0, 34), -2);
    // Half the span of 60 is 2000 teeth, the 2001st state.
    DoorsOnCogs beyond = told(chain(60, 6, 60, 6, 40));
    beyond.want(1, 0);
    due("planned(16, 0), the 2001st state", beyond.planned(16, 0), -3);
    due("planned(1, 0), by itself", beyond.planned(1, 0), 1);
    due("row(1, 0, 0), by itself", beyond.row(1, 0, 0), 130);
    due("planned(17, 0), by both", beyond.planned(17, 0), 1);
  }

  private static void statesFromNowOn() {
    sentence("from now on STATES come one from another (those of a plan before are no more)");
    // A push of door 1 by 1 turns the others by 4, so the mill of 4 teeth stays open by it.
    DoorsOnCogs x = told("door 16 0;door 4 0;axle 0 1;door 4 0;belt 0 2;door 60 60;belt 0 3;"
        + "door 60 60;belt 0 4");
    x.want(8, 16);
    due("planned(1, 0), 61 states", x.planned(1, 0), -2);
    x.want(0, 4);
    due("planned(2, 0), 16 states", x.planned(2, 0), -2);
    due("row(1, 0, 0)", x.row(1, 0, 0), 102);
    x.push(1, 1);
    due("planned(2, 0), from elsewhere", x.planned(2, 0), -2);
    due("row(1, 0, 0), from elsewhere", x.row(1, 0, 0), 98);
  }

  private static void statesOfEachSet() {
    sentence("for such a set of JOINED DOORS: 2000 at most");
    // 2000 states of the first set, and 451 of another one, which half its span are.
    DoorsOnCogs x = told(chain(53, 5, 60, 7, 44) + ";door 60 60;door 4 0;belt 6 7;door 60 0;axle 7 8");
    x.want(65, 0);
    due("planned(272, 0)", x.planned(272, 0), 34 + 8);
    due("row(272, 0, 33)", x.row(272, 0, 33), 4160);
    due("row(272, 0, 34)", x.row(272, 0, 34), 8130);
    due("row(272, 0, 41)", x.row(272, 0, 41), 8160);
    due("row(272, 0, 42)", x.row(272, 0, 42), -2);
  }

  private static void setsTogether() {
    sentence("if for one there is none, there is none; else, if for one it is UNKNOWN, it is");
    String mills = "door 60 0;door 60 0;belt 0 1;";
    DoorsOnCogs x = told(mills + "door 10 6;door 10 6");
    x.want(13, 2);
    due("planned(15, 0), unknown, then one and one", x.planned(15, 0), -3);
    due("planned(3, 0), unknown, then none", x.planned(3, 0), -2);
    due("planned(11, 0), unknown, none, one", x.planned(11, 0), -2);
    due("planned(12, 0), none, then one and one", x.planned(12, 0), -2);
    due("row(15, 0, 0), unknown", x.row(15, 0, 0), -3);
    due("row(3, 0, 0), none", x.row(3, 0, 0), -2);
    DoorsOnCogs y = told("door 10 6;door 60 0;door 60 0;belt 1 2");
    y.want(3, 4);
    due("planned(7, 0), one, then unknown", y.planned(7, 0), -3);
    due("row(7, 0, 0), one, then unknown", y.row(7, 0, 0), -3);
    due("planned(6, 0), none, then unknown", y.planned(6, 0), -2);
  }

  private static void setsThatNeedNone() {
    sentence("those in which all is as WANTED, or nothing is, need no PUSH");
    DoorsOnCogs x = two();
    due("planned(0, 0), nothing wanted", x.planned(0, 0), 0);
    x.want(0, 3);
    due("planned(0, 0), all as wanted", x.planned(0, 0), 0);
    due("planned(0, 3), all as wanted", x.planned(0, 3), 0);
    due("row(3, 0, 0), all as wanted", x.row(3, 0, 0), -2);
    x.want(1, 2);
    due("planned(1, 0), one of them", x.planned(1, 0), 1);
    due("planned(2, 0), the other of them", x.planned(2, 0), -2);
    x.slip(0, 2);
    due("row(1, 0, 0), one tooth short", x.row(1, 0, 0), 101);
    x.slip(0, 1);
    due("planned(0, 0), at half its span", x.planned(0, 0), 0);
  }

  private static void lockedSets() {
    sentence("LOCKED: they can't turn (so they are as WANTED now, or there is none)");
    DoorsOnCogs x = told("door 9 0;door 9 0;mesh 0 1;belt 0 1");
    x.want(1, 0);
    due("planned(3, 0), as wanted", x.planned(3, 0), 0);
    x.want(0, 1);
    due("planned(3, 0), not as wanted", x.planned(3, 0), -2);
    x.slip(0, 5);
    due("planned(3, 0), slipped there", x.planned(3, 0), 0);
  }

  private static void statesOfMills() {
    sentence("STATES, of all DOORS that are JOINED: their PLACES (a MILL's go on beyond its TEETH)");
    DoorsOnCogs x = told("door 4 0;door 4 0;belt 0 1");
    x.want(1, 2);
    due("planned(3, 0), never, in ever other places", x.planned(3, 0), -3);
    due("planned(0, 0), nobody pushes", x.planned(0, 0), -2);
    x.want(0, 3);
    due("row(3, 0, 0), shut 58 teeth back", x.row(3, 0, 0), 100 - 58);
    // With a watched door on its belt the mill may turn only where that one is shut.
    DoorsOnCogs y = told("door 4 0;door 60 60;belt 0 1");
    y.slip(1, 60);
    y.want(0, 1);
    due("planned(3, 0)", y.planned(3, 0), 1);
    due("row(3, 2, 0), 31 back, where it is shut", y.row(3, 2, 0), 100 - 58);
    y.slip(1, -30);
    due("row(3, 2, 0), 30 back at most", y.row(3, 2, 0), 100 - 30);
  }

  private static void rowsInOrder() {
    sentence("The ROW: PUSHES of all these sets, one set behind the other, of each the way by "
        + "which the STATE came first");
    // Sets of 0 and 3, and of 1 and 2, by their least doors, whichever is pushed.
    DoorsOnCogs x = told("door 10 6;door 10 6;door 10 6;door 10 6;belt 0 3;belt 1 2");
    x.want(6, 0);
    due("row(15, 0, 0)", x.row(15, 0, 0), 1103);
    x.want(15, 0);
    due("row(15, 0, 0)", x.row(15, 0, 0), 103);
    due("row(15, 0, 1)", x.row(15, 0, 1), 1103);
    due("row(15, 0, 2)", x.row(15, 0, 2), -2);
    due("row(12, 0, 0)", x.row(12, 0, 0), 3103);
    due("row(12, 0, 1)", x.row(12, 0, 1), 2103);
    // From -60 on: of two that are as wanted the one further back.
    DoorsOnCogs mill = told("door 9 0");
    mill.want(0, 1);
    due("row(1, 0, 0)", mill.row(1, 0, 0), 100 - 58);
    mill.slip(0, 5);
    mill.want(1, 0);
    due("row(1, 0, 0)", mill.row(1, 0, 0), 100 - 59);
  }

  private static void cutsOfThree() {
    sentence("CUT: the fewest JOINS (3 at most); -2: not with three");
    String pair = "door 9 0;door 9 0";
    int[] want = {1, 3, 7, -2, -2};
    for (int joins = 1; joins <= 5; joins++) {
      due("cut(0, 1) of " + joins, told(pair + ";belt 0 1".repeat(joins)).cut(0, 1), want[joins - 1]);
    }
    due("cut(0, 1) of 16", told(pair + ";belt 0 1".repeat(16)).cut(0, 1), -2);
    // Two ways with two joins each, one way with one, and a fourth way.
    String ways = "door 9 0;door 9 0;door 9 0;door 9 0;belt 0 1;belt 1 3;mesh 0 2;mesh 2 3;belt 0 3";
    due("cut(0, 3), three ways", told(ways).cut(0, 3), 1 + 4 + 16);
    due("cut(0, 3), four ways", told(ways + ";axle 0 3").cut(0, 3), -2);
    due("cut(3, 0), three ways", told(ways).cut(3, 0), 1 + 4 + 16);
    due("cut(0, 1), two ways", told(ways).cut(0, 1), 3);
  }

  private static void cutsByLastJoin() {
    sentence("JOINS 0 to 15 (the last of them in a CUT, too)");
    String thirteen = "door 9 0;door 9 0;door 9 0;" + "belt 0 1;".repeat(13);
    due("cut(0, 2)", told(thirteen + "belt 0 1;belt 0 1;belt 1 2").cut(0, 2), 1 << 15);
    due("cut(0, 2)", told(thirteen + "belt 0 2;belt 1 2;belt 2 1").cut(0, 2), 7 << 13);
    due("cut(0, 1)", told(thirteen + "belt 0 2;belt 1 2;belt 2 1").cut(0, 1), -2);
    sentence("JOINS 0 to 15 (the last of them FREED, too)");
    due("freed(0)", told(thirteen + "belt 0 1;belt 0 1;mesh 1 0").freed(0), 1 << 15);
    DoorsOnCogs rings = told(thirteen + "mesh 0 2;belt 1 2;mesh 1 0");
    due("freed(0), of both rings", rings.freed(0), 5 << 13);
    due("freed(2), it alone hangs", rings.freed(2), 3 << 13);
  }

  private static void leastCuts() {
    sentence("CUT: of several the least set");
    String four = "door 9 0;door 9 0;door 9 0;door 9 0;";
    due("cut(0, 3), each of three", told(four + "belt 1 2;belt 0 1;belt 2 3").cut(0, 3), 1);
    due("cut(0, 2), one of each way", told(four + "belt 0 1;belt 1 2;belt 2 3;belt 3 0").cut(0, 2), 5);
    due("cut(0, 2), as a number", told(four + "belt 0 1;belt 0 3;belt 3 2;belt 1 2").cut(0, 2), 3);
    // Joins 0 and 3 would part them, as 1 and 2 do: 6 is less than 9.
    due("cut(0, 2), 1 and 2", told(four + "belt 0 1;belt 1 2;belt 2 1;belt 0 1").cut(0, 2), 6);
  }

  private static void cutsWithoutThese() {
    sentence("CUT, as bits; NONE without these (not JOINED, alike)");
    DoorsOnCogs x = told("door 9 0;door 9 0;door 9 0;mesh 0 1");
    due("cut(0, 1)", x.cut(0, 1), 1);
    due("cut(0, 2), not joined", x.cut(0, 2), NONE);
    due("cut(2, 1), not joined", x.cut(2, 1), NONE);
    due("cut(0, 0), alike", x.cut(0, 0), NONE);
    due("cut(2, 2), alike", x.cut(2, 2), NONE);
    for (int d : new int[] {-1, 3, 12, 32, MANY, FEW}) {
      due("cut(0, " + d + ")", x.cut(0, d), NONE);
      due("cut(" + d + ", 0)", x.cut(d, 0), NONE);
      due("cut(" + d + ", " + d + ")", x.cut(d, d), NONE);
    }
    due("cut(0, 1) on a new object", new DoorsOnCogs().cut(0, 1), NONE);
    DoorsOnCogs locked = told("door 9 0;door 9 0;mesh 0 1;belt 0 1");
    due("cut(0, 1), locked", locked.cut(0, 1), 3);
  }

  private static void freesOfThree() {
    sentence("FREED: the fewest JOINS (3 at most); -2: not with three");
    String pair = "door 9 0;door 9 0";
    int[] want = {1, 5, 21, -2, -2};
    for (int rings = 1; rings <= 5; rings++) {
      DoorsOnCogs x = told(pair + ";belt 0 1;mesh 0 1".repeat(rings));
      due("freed(0) of " + rings, x.freed(0), want[rings - 1]);
      due("freed(1) of " + rings, x.freed(1), want[rings - 1]);
    }
    // A fourth mesh alone on the one side: three belts go, four meshes do not.
    due("freed(0)", told(pair + ";mesh 0 1".repeat(4) + ";belt 0 1".repeat(3)).freed(0), 7 << 4);
    due("freed(0)", told(pair + ";mesh 0 1".repeat(4) + ";belt 0 1".repeat(4)).freed(0), -2);
  }

  private static void leastFrees() {
    sentence("FREED: of several the least set");
    String three = "door 9 0;door 9 0;door 9 0;";
    due("freed(2), a ring", told(three + "mesh 0 1;mesh 1 2;mesh 2 0").freed(2), 1);
    due("freed(2), it alone hangs", told(three + "belt 2 0;mesh 0 1;belt 0 1").freed(2), 1);
    due("freed(0), the ring", told(three + "belt 2 0;mesh 0 1;belt 0 1").freed(0), 2);
    due("freed(2), one of two", told(three + "mesh 0 1;belt 2 0;belt 0 1").freed(2), 1);
  }

  private static void freesWithoutThese() {
    sentence("FREED, as bits; NONE without these (it is not LOCKED)");
    DoorsOnCogs x = told("door 9 0;door 9 0;door 9 0;mesh 0 1;belt 0 1");
    due("freed(0)", x.freed(0), 1);
    due("freed(1)", x.freed(1), 1);
    due("freed(2), not locked", x.freed(2), NONE);
    for (int d : new int[] {-1, 3, 12, 32, MANY, FEW}) {
      due("freed(" + d + ")", x.freed(d), NONE);
    }
    due("freed(0) on a new object", new DoorsOnCogs().freed(0), NONE);
    due("freed(0), joined and not locked", told("door 9 0;door 9 0;mesh 0 1;mesh 0 1").freed(0), NONE);
  }

  private static void seenTeeth() {
    sentence("SEEN of a DOOR (teeth -9999 to 9999): true; false, and nothing happens, without these");
    DoorsOnCogs x = told("door 9 0;door 9 0");
    due("seen(0, 3)", x.seen(0, 3), true);
    for (int teeth : new int[] {10000, -10000, MANY, FEW}) {
      due("seen(0, " + teeth + ")", x.seen(0, teeth), false);
      due("seen(1, " + teeth + ")", x.seen(1, teeth), false);
    }
    for (int d : new int[] {-2, 2, 12, 32, MANY, FEW}) {
      due("seen(" + d + ", 0)", x.seen(d, 0), false);
    }
    due("count(7)", x.count(7), 1);
    due("slipped(2), as it was seen", x.slipped(2), 3);
    due("seen(0, 9999)", x.seen(0, 9999), true);
    due("slipped(0), far off", x.slipped(0), 0);
    due("seen(1, -9999)", x.seen(1, -9999), true);
    due("count(7)", x.count(7), 3);
    due("seen(0, 0) on a new object", new DoorsOnCogs().seen(0, 0), false);
    DoorsOnCogs far = told("door 60 0;door 4 0;axle 0 1");
    for (int i = 0; i < 11; i++) {
      far.push(1, 60);
    }
    // Door 0 is at 9900 now; 9990 is the last before 9999 that pushes by 15 come to.
    far.push(1, 6);
    duePlace(far, 0, 9990, 1);
    far.seen(0, 9999);
    due("slipped(2), at 9999", far.slipped(2), 9);
  }

  private static void seenNone() {
    sentence("NONE for the DOOR: nothing is SEEN then; true");
    DoorsOnCogs x = told("door 9 0;door 9 0");
    x.seen(0, 3);
    x.seen(1, 4);
    due("seen(NONE, 10000)", x.seen(NONE, 10000), true);
    due("count(7)", x.count(7), 0);
    due("seen(NONE, 0), nothing is seen already", x.seen(NONE, 0), true);
    due("slipped(0)", x.slipped(0), 0);
    x.seen(0, 3);
    due("slipped(2), seen anew", x.slipped(2), 3);
    due("seen(NONE, 0) on a new object", new DoorsOnCogs().seen(NONE, 0), true);
  }

  private static void slippedTeeth() {
    sentence("pairs of a DOOR and n (-9 to 9, not 0); -2: there is none; 0: there is none");
    DoorsOnCogs x = told("door 60 0;door 60 60");
    for (int n = -11; n <= 11; n++) {
      x.seen(1, 20 + n);
      x.slip(1, 20);
      boolean isPair = n != 0 && n >= -9 && n <= 9;
      due("slipped(0), " + n, x.slipped(0), bit(isPair));
      due("slipped(1), " + n, x.slipped(1), isPair ? 1 : -2);
      due("slipped(2), " + n, x.slipped(2), isPair ? n : 0);
      x.slip(1, -20);
    }
    sentence("if that DOOR alone is n teeth further");
    x.seen(1, 5);
    x.seen(0, 0);
    due("slipped(1), the other one is so", x.slipped(1), 1);
    x.seen(0, 1);
    due("slipped(0), two are not so", x.slipped(0), 0);
    due("slipped(1), two are not so", x.slipped(1), -2);
    due("slipped(2), two are not so", x.slipped(2), 0);
    x.seen(1, 0);
    due("slipped(1)", x.slipped(1), 0);
    due("slipped(2)", x.slipped(2), 1);
  }

  private static void slippedFractions() {
    sentence("SEEN: of DOORS whole teeth (downwards)");
    DoorsOnCogs x = told("door 5 0;door 10 0;axle 0 1");
    x.seen(0, 0);
    x.push(1, 1);
    due("slipped(0) at 1/2", x.slipped(0), 0);
    x.push(1, 1);
    due("slipped(2) at 1", x.slipped(2), -1);
    x.push(1, -3);
    duePlace(x, 0, -1, 2);
    due("slipped(2) at -1/2", x.slipped(2), 1);
    x.seen(0, -1);
    due("slipped(0) at -1/2", x.slipped(0), 0);
    x.push(1, -1);
    due("slipped(0) at -1", x.slipped(0), 0);
    x.push(1, -1);
    due("slipped(2) at -3/2", x.slipped(2), 1);
    x.seen(0, 7);
    due("slipped(2) at -3/2, by 9", x.slipped(2), 9);
    x.seen(0, 8);
    due("slipped(0) at -3/2, by 10", x.slipped(0), 0);
  }

  private static void noneNeeded() {
    sentence("none needed: 0 pairs, all are so as they are");
    DoorsOnCogs x = told("door 9 0;door 9 0");
    for (int seen = 0; seen < 2; seen++) {
      due("slipped(0)", x.slipped(0), 0);
      due("slipped(1)", x.slipped(1), -2);
      due("slipped(2)", x.slipped(2), 0);
      x.seen(0, 0);
    }
    x.slip(1, 5);
    due("slipped(0), the one not seen is elsewhere", x.slipped(0), 0);
  }

  private static void slippedWithoutThese() {
    sentence("SLIPPED what 0 to 2; NONE for others, or without a STREET");
    DoorsOnCogs x = told("door 9 0");
    for (int what : new int[] {-1, 3, MANY, FEW}) {
      due("slipped(" + what + ")", x.slipped(what), NONE);
    }
    DoorsOnCogs none = new DoorsOnCogs();
    for (int what = -1; what < 4; what++) {
      due("slipped(" + what + ") without a street", none.slipped(what), NONE);
    }
  }
}
