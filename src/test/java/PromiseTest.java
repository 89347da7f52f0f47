/** The promises one by one, with answers worked out by hand. */
public final class PromiseTest extends Bench {
  private static void place(int promise, DoorsOnCogs x, int door, long above, long below) {
    due(promise, "place(" + door + ", 0)", x.place(door, 0), above);
    due(promise, "place(" + door + ", 1)", x.place(door, 1), below);
  }

  /** Two doors that mesh: the first shut at 0, the other open at its end, 6. */
  private static DoorsOnCogs pair(String... rules) {
    DoorsOnCogs x = told("door 10 6;door 10 6;mesh 0 1", rules);
    x.slip(1, 6);
    return x;
  }

  private static DoorsOnCogs locked() {
    return told("door 8 0;door 8 0;door 8 0;mesh 0 1;mesh 1 2;mesh 2 0;door 5 0;axle 2 3;door 7 3");
  }

  private static DoorsOnCogs quick() {
    return told("door 10 0;door 15 0;axle 0 1;door 20 0;mesh 1 2;door 9 9");
  }

  public static void main(String[] args) {
    newObject();
    feedAndEnd();
    streets();
    streetsInPlace();
    rules();
    ruleLimits();
    ruleSums();
    doors();
    places();
    joins();
    ratios();
    pushes();
    reaches();
    slips();
    wants();
    plans();
    plansOfSets();
    plansByPaces();
    rows();
    cuts();
    frees();
    seens();
    comings();
    days();
    worns();
    draws();
    counts();
    images();
    due(0, "NONE", DoorsOnCogs.NONE, -1);
    finish();
  }

  private static void newObject() {
    DoorsOnCogs x = new DoorsOnCogs();
    for (int what = 0; what < 12; what++) {
      due(1, "count(" + what + ")", x.count(what), 0);
    }
    due(1, "door", x.door(0, 0), -1);
    due(1, "place", x.place(0, 0), NO_FRACTION);
    due(1, "join", x.join(0, 0), -1);
    due(1, "ratio", x.ratio(0, 0, 0), NO_FRACTION);
    due(1, "push", x.push(0, 1), -1);
    due(1, "can", x.can(0, 1), -1);
    due(1, "reach", x.reach(0, false), -100);
    due(1, "slip", x.slip(0, 0), false);
    due(1, "want", x.want(1, 0), false);
    due(1, "planned", x.planned(1, 0), -1);
    due(1, "row", x.row(0, 1, 0), -1);
    plansWithoutStreet(x);
    due(1, "cut", x.cut(0, 1), -1);
    due(1, "freed", x.freed(0), -1);
    due(1, "seen", x.seen(0, 0), false);
    due(1, "slipped", x.slipped(0), -1);
    due(1, "coming", x.coming(0), -2);
    due(1, "day", x.day(0), -1);
    due(1, "would", x.would(0, 0), -1);
    due(1, "worn", x.worn(0, 0, 0), -1);
    due(1, "drawn", x.drawn(0, 1, 1, 0), -1);
    due(1, "back", x.back(0), -1);
  }

  /** Unlike want, plans take no sets without a street, not even empty ones. */
  private static void plansWithoutStreet(DoorsOnCogs x) {
    due(14, "want(0, 0), no street", x.want(0, 0), true);
    due(15, "planned(0, 0), no street", x.planned(0, 0), -1);
    due(16, "row(0, 0, 0), no street", x.row(0, 0, 0), -1);
    due(16, "row(0, 0, 7), no street", x.row(0, 0, 7), -1);
    due(16, "row(0, 0, -1), no street", x.row(0, 0, -1), -1);
  }

  private static void feedAndEnd() {
    DoorsOnCogs x = new DoorsOnCogs();
    for (int i = 1; i <= 20; i++) {
      due(2, "feed " + i, x.feed(0, 0, 0, 0, 0), 20 * i);
    }
    due(2, "feed beyond 400", x.feed(0, 0, 0, 0, 0), -1);
    due(2, "count(9)", x.count(9), 400);
    due(3, "end(401)", x.end(401), -1);
    due(3, "end(-1)", x.end(-1), -1);
    due(3, "count(9)", x.count(9), 400);
    due(3, "end(400)", x.end(400), 400);
    due(3, "end(381)", x.end(381), 381);
    due(2, "feed behind 381", x.feed(0, 0, 0, 0, 0), -1);
    due(3, "end(380)", x.end(380), 380);
    due(2, "feed behind 380", x.feed(0, 0, 0, 0, 0), 400);
    due(3, "end(0)", x.end(0), 0);
    due(3, "end(1)", x.end(1), -1);
    // "door 4 0" behind "fixed 0;", all in one feed but its last byte.
    x.feed(0x646f6f72, 0x20342030, 0x3b666978, 0x65642030, 0xffffffff);
    x.end(16);
    due(2, "street, the highest byte first", x.street(), 1);
    due(2, "door(0, 2)", x.door(0, 2), 1);
  }

  private static void streets() {
    sentence("promise 4");
    dueStreet("door 4 0", 1);
    dueStreet("  door4 00004 ;door 60 60 ; mesh 0 1;fixed1  ", 2);
    dueStreet("", -3);
    dueStreet("   ", -2 - 25);
    dueStreet("door", -35);
    dueStreet("door   ", -2 - 57);
    dueStreet("door 3 0", -44);
    dueStreet("door 61 0", -44);
    dueStreet("door 10 11", -68);
    dueStreet("door 10", -59);
    dueStreet("door 000010 0", -44);
    dueStreet("door 10 000005", -2 - 66);
    dueStreet("mesh 0 1", -44);
    dueStreet("door 9 0;mesh 0 0", -132);
    dueStreet("door 9 0;mesh 0 1", -132);
    dueStreet("door 9 0;belt 1 0", -2 - (1 + 8 * 14 + 1));
    dueStreet("fixed 0", -52);
    dueStreet("doors 9 0", -3);
    dueStreet("Door 9 0", -3);
    dueStreet("doorX 9 0", -2 - 33);
    dueStreet("door 9 0;", -75);
    dueStreet(";door 9 0", -3);
    dueStreet("door 9 0 5", -2 - (1 + 8 * 9));
    dueStreet("door 9 0 door 9 0", -2 - (1 + 8 * 9));
    dueStreet("door 9,0", -2 - (1 + 8 * 6));
    dueStreet("door 9 0\0", -2 - (1 + 8 * 8));
    dueStreet("door 9 0;push 1", -2 - (1 + 8 * 9));
    dueStreet("door 9 0;door 9 0;" + "axle 0 1;".repeat(3) + "axle 0 1", -367);
    dueStreet("door 4 0;".repeat(11) + "door 4 0", 12);
    dueStreet("door 4 0;".repeat(12) + "door 4 0", -871);
    dueStreet("door 4 0;".repeat(12) + "  door 4 0", -871 - 16);
    dueStreet("door 4 0;".repeat(12) + "doors 4 0", -2 - (1 + 8 * 108));
    dueStreet("door 4 0;door 4 0;" + "belt 0 1;".repeat(15) + "mesh 1 0", 2);
    dueStreet("door 4 0;door 4 0;" + "belt 0 1;".repeat(16) + "mesh 1 0", -1303);
    dueStreet("door 4 0;" + "fixed 0;".repeat(30) + "fixed 0", 1);
    dueStreet("door 4 0;" + "fixed 0;".repeat(31) + "fixed 0", -2063);
    dueStreet("door 4 0;" + "fixed 0;".repeat(31) + "fixe 0", -2 - (1 + 8 * 257));
    dueStreet("door 4 0;" + "fixed 0;".repeat(31), -2 - (1 + 8 * 257));
  }

  private static void streetsInPlace() {
    DoorsOnCogs x = told("door 10 6;door 10 6;mesh 0 1;fixed 1", "push 1");
    x.slip(1, 4);
    x.want(1, 2);
    x.seen(0, 3);
    x.coming(0);
    x.seed(77);
    due(4, "street with a fault", street(x, "door 9 0;"), -75);
    due(4, "count(0), all stays", x.count(0), 2);
    due(4, "count(6), all stays", x.count(6), 1);
    due(4, "count(7), all stays", x.count(7), 1);
    due(4, "count(10), all stays", x.count(10), 1);
    place(4, x, 1, 4, 1);
    due(4, "count(9), the tape is empty", x.count(9), 0);
    due(4, "street in its place", street(x, "door 4 0;door 5 1;door 6 0"), 3);
    int[] counts = {3, 0, 1, 5, 0, 3, 0, 0, 77, 0, 0, 0};
    for (int what = 0; what < 12; what++) {
      due(4, "count(" + what + ")", x.count(what), counts[what]);
    }
    due(4, "door(1, 2)", x.door(1, 2), 0);
    place(4, x, 1, 0, 1);
  }

  private static void rules() {
    sentence("promise 5");
    dueRule("push 1", 0);
    dueRule("push1if1<2", 0);
    dueRule(" push  1 + 2*door - teeth/span if [ place < 1 or not open=1] and opens<=joins ; push coming", 0);
    dueRule("push 1 if not not [[1>=2]]", 0);
    dueRule("", -3);
    dueRule("push", -35);
    dueRule("push 1 if", -75);
    dueRule("push 1 if ", -2 - 81);
    dueRule("push x", -43);
    dueRule("pushes 1", -3);
    dueRule("door 4 0", -3);
    dueRule("push 1;", -59);
    dueRule("push 1;;", -59);
    dueRule("push 1 if open = 1]", -147);
    dueRule("push 1 if [open = 1", -2 - (1 + 8 * 19));
    dueRule("push 1 if [open = 1;push 1", -2 - (1 + 8 * 19));
    dueRule("push 1 if open", -2 - (1 + 8 * 14));
    dueRule("push 1 if open and 1 = 1", -2 - (1 + 8 * 15));
    dueRule("push 1 if open < = 1", -2 - (1 + 8 * 17));
    dueRule("push 1 if open == 1", -2 - (1 + 8 * 16));
    dueRule("push 1 if open => 1", -2 - (1 + 8 * 16));
    dueRule("push 1 if 1 < 2 < 3", -2 - (1 + 8 * 16));
    dueRule("push 1 if [1 < 2] < 3", -2 - (1 + 8 * 18));
    dueRule("push 1 if [1 < 2] + 3", -2 - (1 + 8 * 18));
    dueRule("push 1 if [1 + 2] < 3", -2 - (1 + 8 * 16));
    dueRule("push 1 if 1 < not", -2 - (1 + 8 * 14));
    dueRule("push 1 if 1 + [1 < 2]", -2 - (1 + 8 * 14));
    dueRule("push 1 < 2", -2 - (1 + 8 * 7));
    dueRule("push 1 2", -2 - (1 + 8 * 7));
    dueRule("push -1", -2 - (1 + 8 * 5));
    dueRule("push 1 +", -2 - (1 + 8 * 8));
    dueRule("push if 1 < 2", -2 - (1 + 8 * 5));
    dueRule("push [1]", -2 - (1 + 8 * 5));
    dueRule("push 1 iff 1 < 2", -2 - (1 + 8 * 7));
    dueRule("push 1 or 1 < 2", -2 - (1 + 8 * 7));
    dueRule("push 1 if 1 < 2 if 1 < 2", -2 - (1 + 8 * 16));
    dueRule("push 1 if 1 < 2 and or 1 < 2", -2 - (1 + 8 * 20));
    dueRule("push place2", -2 - (1 + 8 * 10));
    dueRule("push 99999", 0);
    dueRule("push 123456", -44);
    dueRule("push 1 if 000001 = 1", -2 - (1 + 8 * 10 + 1));
  }

  private static void ruleLimits() {
    sentence("promise 5");
    String open = "push 1 if ";
    dueRule(open + "[".repeat(10) + "1<2" + "]".repeat(10), 0);
    dueRule(open + "[".repeat(11) + "1<2" + "]".repeat(11), -165);
    dueRule(open + "not ".repeat(10) + "1<2", 0);
    dueRule(open + "not ".repeat(11) + "1<2", -405);
    dueRule(open + "not [".repeat(5) + " not 1<2", -2 - (1 + 8 * 36 + 2));
    dueRule(open + "not 1<2 and ".repeat(11) + "not 1<2", 0);
    dueRule(open + "[1<2] or ".repeat(11) + "[1<2]", 0);
    dueRule(open + "not [".repeat(5) + "1<2] or not not 1<2" + "]".repeat(4), 0);
    dueRule(open + "not [".repeat(5) + "1<2] or not not not 1<2", -2 - (1 + 8 * 51 + 2));
    dueRule("push " + "1+".repeat(59) + "1", 0);
    dueRule("push " + "1+".repeat(60) + "1", -1006);
    dueRule("push " + "1+".repeat(60) + "x", -1003);
    dueRule("push " + "1+".repeat(60) + "123456", -1004);
    dueRule("push " + "1+".repeat(60), -1003);
    dueRule("push " + "1+".repeat(56) + "1 if 1<1", 0);
    dueRule("push " + "1+".repeat(57) + "1 if 1<1", -2 - (1 + 8 * 126 + 3));
    dueRule("push " + "1+".repeat(58) + "1 if 1 <1", -2 - (1 + 8 * 128 + 3));
    dueRule("push " + "1+".repeat(29) + "1;push " + "1+".repeat(30) + "1", -2 - (1 + 8 * 130 + 3));
    dueRule("push 1;".repeat(11) + "push 1", 0);
    dueRule("push 1;".repeat(12) + "push 1", -679);
    dueRule("push 1;".repeat(12) + "pusx 1", -2 - (1 + 8 * 84));
    dueRule("push 1;".repeat(12), -2 - (1 + 8 * 84));
    DoorsOnCogs x = new DoorsOnCogs();
    for (int i = 0; i < 6; i++) {
      due(5, "rule with a fault", rule(x, "push"), -35);
      due(5, "count(9), the tape is empty", x.count(9), 0);
      due(5, "rule " + i, rule(x, "push 1"), i);
    }
    due(5, "a seventh rule", rule(x, "push 1"), -1);
    due(5, "count(9), nothing happened", x.count(9), 6);
    due(5, "count(2)", x.count(2), 6);
  }

  /** What a sum is worth shows in how far a mill, shut at first, is pushed. */
  private static void ruleSums() {
    dueDay("1", 1);
    dueDay("2+3*4-10/3", 11);
    dueDay("7-9", -2);
    dueDay("2-9/2/2", 0);
    dueDay("0-9/2", -4);
    dueDay("[0]", 0);
    dueDay("5/0", 0);
    dueDay("99999", 60);
    dueDay("0-99999", -60);
    dueDay("60+1", 60);
    dueDay("door*10+joins", 12);
    dueDay("teeth", 30);
    dueDay("span+7", 7);
    dueDay("place", 15);
    dueDay("open+9", 9);
    dueDay("opens", 1);
    dueDay("coming+6", 6);
    // 99999 to the fourth goes round: by 2 to the 64th over, it is below 0.
    dueDay("99999*99999*99999*99999", (int) Math.max(-60, Math.min(60, 99999L * 99999 * 99999 * 99999)));
    dueDay("3 if 1<1;4 if 1>1;5 if 2<=1;6 if 1>=2;7 if 1=2;8", 8);
    dueDay("3 if not 1<2 or 2=2 and 3>2;8", 3);
    dueDay("3 if [1<2 or 2=2] and 3<2;8", 8);
    dueDay("3 if 1<2 or 2=2 and 3<2;8", 3);
    dueDay("3 if not [1<2 and 2<1];8", 3);
    dueDay("3 if not not 1<2;8", 3);
    dueDay("3 if 2*3=1+5;8", 3);
    dueDay("3 if 2<=2;8", 3);
    dueDay("3 if 2>=2;8", 3);
    dueDay("3 if 2>=3;8", 8);
    dueDay("3 if not 1<2;8", 8);
    dueDay("3 if not 1<2 and 2<1;8", 8);
    dueDay("3 if 1<2 and not 2<1;8", 3);
    dueDay("0;8", 0);
    dueDay("3 if 1=2", 0);
  }

  private static void dueDay(String sum, int want) {
    DoorsOnCogs x = told("door 8 0;door 30 0;belt 0 1;mesh 1 0;fixed 0;door 4 0");
    // Unlike joins lock them, so a second street without the mesh is what is pushed on.
    street(x, "door 8 0;door 30 0;belt 0 1;belt 1 0;fixed 0;door 5 5");
    x.slip(1, 15);
    x.coming(1);
    int answer = rule(x, ("push " + sum).replace(";", ";push "));
    if (sum.startsWith("[")) {
      due(5, "push " + sum, answer, -2 - 41);
      return;
    }
    x.day(0);
    due(22, "push " + sum, x.place(1, 0) - 15, want);
  }

  private static void doors() {
    DoorsOnCogs x = told("door 10 5;door 20 10;mesh 0 1;door 30 0;belt 1 2;fixed 1;door 9 9");
    int[][] want = {{10, 5, 0, 0, 0, 0}, {20, 10, 1, 0, 0, 0}, {30, 0, 0, 1, 0, 0}, {9, 9, 0, 0, 0, 3}};
    for (int d = 0; d < 4; d++) {
      for (int what = 0; what < 6; what++) {
        due(6, "door(" + d + ", " + what + ")", x.door(d, what), want[d][what]);
      }
      due(6, "door(" + d + ", 6)", x.door(d, 6), -1);
      due(6, "door(" + d + ", -1)", x.door(d, -1), -1);
    }
    for (int d : new int[] {-1, 4, 12, 32, MANY, FEW}) {
      due(6, "door(" + d + ", 0)", x.door(d, 0), -1);
    }
    // Twice the place is the span at least: 3 of 5, 5 of 10.
    x.slip(0, 2);
    due(6, "door(0, 3) at 2 of 5", x.door(0, 3), 0);
    x.slip(0, 1);
    due(6, "door(0, 3) at 3 of 5", x.door(0, 3), 1);
    x.slip(1, 5);
    due(6, "door(1, 3) at 5 of 10", x.door(1, 3), 1);
    x.slip(2, 14);
    due(6, "door(2, 3) at 14 of 30", x.door(2, 3), 1);
    x.slip(2, 1);
    due(6, "door(2, 3) at 15 of 30", x.door(2, 3), 0);
    x.slip(2, 15);
    due(6, "door(2, 3) at 30 of 30", x.door(2, 3), 1);
    x.slip(2, -31);
    due(6, "door(2, 3) at -1 of 30", x.door(2, 3), 0);
    DoorsOnCogs l = locked();
    for (int d = 0; d < 5; d++) {
      due(6, "door(" + d + ", 4), locked", l.door(d, 4), d < 4 ? 1 : 0);
      due(6, "door(" + d + ", 5), locked", l.door(d, 5), d < 4 ? 0 : 4);
    }
  }

  private static void places() {
    DoorsOnCogs x = quick();
    place(7, x, 0, 0, 1);
    x.push(0, 1);
    place(7, x, 0, 1, 1);
    place(7, x, 1, 3, 2);
    place(7, x, 2, -3, 2);
    x.push(2, 1);
    place(7, x, 0, 1, 3);
    place(7, x, 1, 1, 2);
    place(7, x, 2, -1, 2);
    x.push(2, -1);
    x.push(0, -1);
    place(7, x, 2, 0, 1);
    place(7, x, 3, 0, 1);
    due(7, "place(0, 2)", x.place(0, 2), NO_FRACTION);
    due(7, "place(0, -1)", x.place(0, -1), NO_FRACTION);
    due(7, "place(4, 0)", x.place(4, 0), NO_FRACTION);
    due(7, "place(-1, 0)", x.place(-1, 0), NO_FRACTION);
  }

  private static void joins() {
    DoorsOnCogs x = told("door 9 0;door 8 0;door 7 0;mesh 2 1;belt 0 2;axle 1 0");
    int[][] want = {{2, 1, 0}, {0, 2, 1}, {1, 0, 2}};
    for (int j = 0; j < 3; j++) {
      for (int what = 0; what < 3; what++) {
        due(8, "join(" + j + ", " + what + ")", x.join(j, what), want[j][what]);
      }
      due(8, "join(" + j + ", 3)", x.join(j, 3), -1);
      due(8, "join(" + j + ", -1)", x.join(j, -1), -1);
    }
    due(8, "join(3, 0)", x.join(3, 0), -1);
    due(8, "join(-1, 0)", x.join(-1, 0), -1);
  }

  private static void ratios() {
    DoorsOnCogs x = quick();
    long[][] above = {{1, 3, -3, 0}, {2, 1, -1, 0}, {-2, -1, 1, 0}, {0, 0, 0, 1}};
    long[][] below = {{1, 2, 2, 1}, {3, 1, 1, 1}, {3, 1, 1, 1}, {1, 1, 1, 1}};
    for (int a = 0; a < 4; a++) {
      for (int b = 0; b < 4; b++) {
        due(9, "ratio(" + a + ", " + b + ", 0)", x.ratio(a, b, 0), above[a][b]);
        due(9, "ratio(" + a + ", " + b + ", 1)", x.ratio(a, b, 1), below[a][b]);
      }
    }
    due(9, "ratio(0, 4, 0)", x.ratio(0, 4, 0), NO_FRACTION);
    due(9, "ratio(-1, 0, 0)", x.ratio(-1, 0, 0), NO_FRACTION);
    due(9, "ratio(0, 1, 2)", x.ratio(0, 1, 2), NO_FRACTION);
    DoorsOnCogs l = locked();
    due(9, "ratio(0, 3, 0), locked", l.ratio(0, 3, 0), NO_FRACTION);
    due(9, "ratio(1, 1, 1), locked", l.ratio(1, 1, 1), NO_FRACTION);
    due(9, "ratio(0, 4, 0), not joined", l.ratio(0, 4, 0), 0);
    due(9, "ratio(0, 4, 1), not joined", l.ratio(0, 4, 1), 1);
    DoorsOnCogs far = told("door 59 0;door 4 0;axle 0 1;door 53 0;belt 1 2;door 7 0;axle 2 3;"
        + "door 47 0;mesh 3 4;door 9 0;axle 4 5");
    due(9, "ratio(5, 0, 0), three axles", far.ratio(5, 0, 0), -59 * 53 * 47);
    due(9, "ratio(5, 0, 1), three axles", far.ratio(5, 0, 1), 4 * 7 * 9);
    due(9, "ratio(0, 5, 0), three axles", far.ratio(0, 5, 0), -4 * 7 * 9);
  }

  private static void pushes() {
    DoorsOnCogs x = told("door 10 5;door 20 10;mesh 0 1;door 30 0;belt 1 2;fixed 1;door 9 9");
    due(10, "push(0, 1)", x.push(0, 1), -11);
    due(10, "push(0, -1)", x.push(0, -1), -10);
    due(10, "push(1, 1)", x.push(1, 1), -2);
    x.slip(1, 5);
    due(11, "can(0, 3)", x.can(0, 3), 3);
    place(11, x, 0, 0, 1);
    due(10, "push(0, 3)", x.push(0, 3), 3);
    place(10, x, 0, 3, 1);
    place(10, x, 1, 2, 1);
    place(10, x, 2, -3, 1);
    place(10, x, 3, 0, 1);
    due(10, "push(2, -3)", x.push(2, -3), -10);
    due(10, "push(2, -2)", x.push(2, -2), 3);
    place(10, x, 0, 5, 1);
    place(10, x, 1, 0, 1);
    due(10, "push(3, 9)", x.push(3, 9), 1);
    due(10, "push(3, 1)", x.push(3, 1), -13);
    for (int n : new int[] {0, 61, -61, MANY, FEW}) {
      due(10, "push(3, " + n + ")", x.push(3, n), -1);
      due(11, "can(3, " + n + ")", x.can(3, n), -1);
    }
    due(10, "push(4, 1)", x.push(4, 1), -1);
    due(11, "can(-1, 1)", x.can(-1, 1), -1);
    DoorsOnCogs l = locked();
    due(10, "push(3, 1), locked", l.push(3, 1), -3);
    due(11, "can(3, 1), locked", l.can(3, 1), -3);
    DoorsOnCogs both = told("door 9 0;door 9 0;mesh 0 1;belt 0 1;fixed 0");
    due(10, "push(0, 1), fixed and locked", both.push(0, 1), -2);
    due(10, "push(1, 1), locked", both.push(1, 1), -3);
    DoorsOnCogs mill = told("door 9 0");
    due(10, "push(0, 60)", mill.push(0, 60), 1);
    due(10, "push(0, -60)", mill.push(0, -60), 1);
  }

  private static void reaches() {
    DoorsOnCogs x = pair();
    due(12, "reach(0, false)", x.reach(0, false), 6);
    due(12, "reach(0, true)", x.reach(0, true), 0);
    due(12, "reach(1, false)", x.reach(1, false), 0);
    due(12, "reach(1, true)", x.reach(1, true), -6);
    due(12, "reach(2, true)", x.reach(2, true), -100);
    due(12, "reach(-1, true)", x.reach(-1, true), -100);
    DoorsOnCogs mill = told("door 9 0;door 9 0;fixed 1");
    due(12, "reach(0, false) of a mill", mill.reach(0, false), 60);
    due(12, "reach(0, true) of a mill", mill.reach(0, true), -60);
    due(12, "reach(1, false), fixed", mill.reach(1, false), 0);
    due(12, "reach(0, false), locked", locked().reach(0, false), 0);
    DoorsOnCogs slow = told("door 4 4;door 59 0;axle 0 1");
    due(12, "reach(1, false), 4 of 59 teeth", slow.reach(1, false), 59);
    due(12, "reach(0, false), 59 of 4 teeth", slow.reach(0, false), 4);
  }

  private static void slips() {
    DoorsOnCogs x = quick();
    due(13, "slip(3, 9)", x.slip(3, 9), true);
    due(13, "slip(3, 1)", x.slip(3, 1), false);
    due(13, "slip(3, -10)", x.slip(3, -10), false);
    place(13, x, 3, 9, 1);
    due(13, "slip(3, 0)", x.slip(3, 0), true);
    due(13, "slip(0, 60)", x.slip(0, 60), true);
    due(13, "slip(0, 61)", x.slip(0, 61), false);
    due(13, "slip(0, -61)", x.slip(0, -61), false);
    place(13, x, 0, 60, 1);
    place(13, x, 1, 0, 1);
    x.push(0, 1);
    due(13, "slip(1, -3)", x.slip(1, -3), true);
    place(13, x, 1, -3, 2);
    due(13, "slip(4, 1)", x.slip(4, 1), false);
    due(13, "slip(-1, 1)", x.slip(-1, 1), false);
    DoorsOnCogs l = locked();
    due(13, "slip(0, 3), locked", l.slip(0, 3), true);
    place(13, l, 0, 3, 1);
    DoorsOnCogs fixed = told("door 9 9;fixed 0");
    due(13, "slip(0, 3), fixed", fixed.slip(0, 3), true);
  }

  private static void wants() {
    DoorsOnCogs x = quick();
    due(14, "want(5, 10)", x.want(5, 10), true);
    due(14, "want(5, 4)", x.want(5, 4), false);
    due(14, "want(16, 0)", x.want(16, 0), false);
    due(14, "want(0, 16)", x.want(0, 16), false);
    due(14, "want(-1, 0)", x.want(-1, 0), false);
    due(14, "want(0, FEW)", x.want(0, FEW), false);
    due(14, "count(10)", x.count(10), 5);
    due(14, "count(11)", x.count(11), 10);
    due(14, "want(0, 0)", x.want(0, 0), true);
    due(14, "count(10)", x.count(10), 0);
    due(14, "want(0, 0) without a street", new DoorsOnCogs().want(0, 0), true);
    DoorsOnCogs twelve = told("door 4 0;".repeat(11) + "door 4 0");
    due(14, "want(4095, 0)", twelve.want(4095, 0), true);
    due(14, "want(4096, 0)", twelve.want(4096, 0), false);
  }

  private static void plans() {
    DoorsOnCogs x = pair();
    due(15, "planned(0, 0), nothing wanted", x.planned(0, 0), 0);
    x.want(1, 2);
    due(15, "planned(1, 0)", x.planned(1, 0), 1);
    due(16, "row(1, 0, 0)", x.row(1, 0, 0), 104);
    due(15, "planned(2, 0)", x.planned(2, 0), 1);
    due(16, "row(2, 0, 0)", x.row(2, 0, 0), 1094);
    due(16, "row(3, 0, 0), the least door first", x.row(3, 0, 0), 104);
    due(15, "planned(0, 0)", x.planned(0, 0), -2);
    due(16, "row(0, 0, 0)", x.row(0, 0, 0), -2);
    due(15, "planned(1, 1), seen by the wanted one", x.planned(1, 1), -2);
    due(15, "planned(1, 2), open now", x.planned(1, 2), 1);
    due(15, "planned(4, 0)", x.planned(4, 0), -1);
    due(15, "planned(0, 4)", x.planned(0, 4), -1);
    due(15, "planned(-1, 0)", x.planned(-1, 0), -1);
    due(15, "planned(0, -1)", x.planned(0, -1), -1);
    x.want(3, 0);
    due(16, "row(1, 0, 0), both open", x.row(1, 0, 0), 103);
    x.want(0, 3);
    due(15, "planned(3, 0), both shut", x.planned(3, 0), -2);
    x.want(2, 1);
    due(15, "planned(3, 3), as wanted", x.planned(3, 3), 0);
    place(15, x, 0, 0, 1);
    DoorsOnCogs fixed = told("door 10 6;door 10 6;belt 0 1;fixed 0");
    fixed.want(1, 0);
    due(15, "planned(1, 0), fixed", fixed.planned(1, 0), -2);
    due(16, "row(3, 0, 0), fixed", fixed.row(3, 0, 0), 1103);
    DoorsOnCogs mill = told("door 60 0");
    mill.want(0, 1);
    due(16, "row(1, 0, 0), a mill", mill.row(1, 0, 0), 70);
    DoorsOnCogs l = locked();
    l.want(16, 1);
    due(15, "planned(31, 0), locked", l.planned(31, 0), -2);
    l.slip(0, 4);
    due(15, "planned(31, 0), locked as wanted", l.planned(31, 0), 1);
  }

  private static void plansOfSets() {
    DoorsOnCogs twins = told("door 60 0;door 60 0;belt 0 1");
    twins.want(1, 2);
    due(15, "planned(3, 0), unknown", twins.planned(3, 0), -3);
    due(16, "row(3, 0, 0), unknown", twins.row(3, 0, 0), -3);
    due(16, "row(3, 0, 5), unknown", twins.row(3, 0, 5), -3);
    due(15, "planned(0, 0), none", twins.planned(0, 0), -2);
    DoorsOnCogs bounded = told("door 10 6;door 10 6;belt 0 1");
    bounded.want(1, 2);
    due(15, "planned(3, 0), none", bounded.planned(3, 0), -2);
    DoorsOnCogs x = told("door 10 6;door 60 0;door 60 0;belt 1 2");
    x.want(3, 4);
    due(15, "planned(2, 0), none and unknown", x.planned(2, 0), -2);
    due(15, "planned(3, 0), one and unknown", x.planned(3, 0), -3);
    // 450 of 900 parts of a span, by 60 at most.
    DoorsOnCogs slow = told("door 4 4;door 60 0;axle 0 1;door 4 0;belt 1 2;door 60 0;axle 2 3");
    slow.want(1, 0);
    due(15, "planned(8, 0), by 8", slow.planned(8, 0), 8);
    due(16, "row(8, 0, 0)", slow.row(8, 0, 0), 3130);
    for (int k = 1; k < 8; k++) {
      due(16, "row(8, 0, " + k + ")", slow.row(8, 0, k), 3160);
    }
    due(16, "row(8, 0, 8)", slow.row(8, 0, 8), -2);
    // 2000 states: parts 0 to 1999 of a way of 3600, half of which would be 1800.
    DoorsOnCogs slower = told("door 4 4;door 60 0;axle 0 1;door 4 0;belt 1 2;door 60 0;axle 2 3;"
        + "door 15 0;belt 3 4;door 60 0;axle 4 5");
    slower.want(1, 0);
    due(15, "planned(32, 0), 1800 of 3600 parts", slower.planned(32, 0), 30);
    DoorsOnCogs slowest = told("door 4 4;door 60 0;axle 0 1;door 4 0;belt 1 2;door 60 0;axle 2 3;"
        + "door 13 0;belt 3 4;door 60 0;axle 4 5");
    slowest.want(1, 0);
    due(15, "planned(32, 0), beyond 2000", slowest.planned(32, 0), -3);
  }

  /** Pushers of unlike paces: one turns the others by 15 teeth, one by 1. */
  private static void plansByPaces() {
    DoorsOnCogs x = told("door 60 60;door 4 0;axle 0 1;door 60 58;belt 0 2;door 60 60;mesh 0 3");
    x.slip(3, 60);
    x.want(1, 8);
    due(16, "row(2, 0, 0), coarse", x.row(2, 0, 0), 1103);
    due(16, "row(4, 0, 0), fine", x.row(4, 0, 0), 2131);
    due(16, "row(6, 0, 0), the coarse one is the less", x.row(6, 0, 0), 1103);
    x.want(4, 1);
    due(15, "planned(2, 0), coarse", x.planned(2, 0), -2);
    due(16, "row(6, 0, 0), the fine one alone", x.row(6, 0, 0), 2129);
  }

  private static void rows() {
    DoorsOnCogs x = told("door 10 6;door 12 8");
    x.want(3, 0);
    due(15, "planned(3, 0)", x.planned(3, 0), 2);
    due(16, "row(3, 0, 0)", x.row(3, 0, 0), 103);
    due(16, "row(3, 0, 1)", x.row(3, 0, 1), 1104);
    due(16, "row(3, 0, 2)", x.row(3, 0, 2), -2);
    due(16, "row(3, 0, MANY)", x.row(3, 0, MANY), -2);
    due(16, "row(3, 0, -1)", x.row(3, 0, -1), -1);
    due(16, "row(4, 0, 0)", x.row(4, 0, 0), -1);
    due(16, "row(0, -1, 0)", x.row(0, -1, 0), -1);
    due(15, "planned(1, 0)", x.planned(1, 0), -2);
    // Another set's door that is watched and open does not matter, but one of the same does.
    x.slip(1, 8);
    due(15, "planned(1, 2)", x.planned(1, 2), 1);
    x.want(0, 2);
    due(16, "row(2, 2, 0)", x.row(2, 2, 0), 1092);
  }

  private static void cuts() {
    DoorsOnCogs l = locked();
    due(17, "cut(0, 1)", l.cut(0, 1), 3);
    due(17, "cut(1, 2)", l.cut(1, 2), 3);
    due(17, "cut(2, 0)", l.cut(2, 0), 5);
    due(17, "cut(0, 3)", l.cut(0, 3), 8);
    due(17, "cut(0, 4), not joined", l.cut(0, 4), -1);
    due(17, "cut(0, 0), alike", l.cut(0, 0), -1);
    due(17, "cut(0, 5)", l.cut(0, 5), -1);
    due(17, "cut(-1, 0)", l.cut(-1, 0), -1);
    DoorsOnCogs three = told("door 9 0;door 9 0;door 8 0;belt 0 1;belt 1 2;belt 1 0;belt 0 1");
    due(17, "cut(0, 1), three", three.cut(0, 1), 13);
    DoorsOnCogs four = told("door 9 0;door 9 0;belt 0 1;belt 1 0;belt 0 1;belt 1 0");
    due(17, "cut(0, 1), four", four.cut(0, 1), -2);
    // Joins 0 and 3, or 1 and 2: the less number is that of 1 and 2.
    DoorsOnCogs ring = told("door 9 0;door 9 0;door 9 0;door 9 0;belt 2 3;belt 0 1;belt 3 0;belt 1 2");
    due(17, "cut(0, 2)", ring.cut(0, 2), 3);
    DoorsOnCogs two = told("door 9 0;door 9 0;door 9 0;belt 0 1;belt 2 1;belt 1 2;belt 0 1");
    due(17, "cut(0, 2), least as a number", two.cut(0, 2), 6);
  }

  private static void frees() {
    DoorsOnCogs l = locked();
    due(18, "freed(0)", l.freed(0), 1);
    due(18, "freed(3), by its axle too", l.freed(3), 1);
    due(18, "freed(4), not locked", l.freed(4), -1);
    due(18, "freed(5)", l.freed(5), -1);
    due(18, "freed(-1)", l.freed(-1), -1);
    DoorsOnCogs last = told("door 9 0;door 9 0;door 9 0;belt 0 1;mesh 1 0;belt 0 1;belt 1 2");
    due(18, "freed(2), least of those alone", last.freed(2), 2);
    DoorsOnCogs pairs = told("door 9 0;door 9 0;belt 0 1;mesh 1 0;belt 0 1;mesh 1 0");
    due(18, "freed(0), of two pairs", pairs.freed(0), 5);
    DoorsOnCogs three = told("door 9 0;door 9 0;belt 0 1;mesh 1 0;belt 0 1;mesh 1 0;belt 0 1;mesh 1 0");
    due(18, "freed(0), of three pairs", three.freed(0), 21);
    DoorsOnCogs four = told("door 9 0;door 9 0;" + "belt 0 1;mesh 1 0;".repeat(3) + "belt 0 1;mesh 1 0");
    due(18, "freed(0), of four pairs", four.freed(0), -2);
    DoorsOnCogs axles = told("door 9 0;door 8 0;axle 0 1;belt 1 0");
    due(18, "freed(1), axle and belt", axles.freed(1), 1);
    DoorsOnCogs alike = told("door 9 0;door 9 0;axle 0 1;belt 1 0");
    due(18, "freed(1), axle and belt alike", alike.freed(1), -1);
  }

  private static void seens() {
    DoorsOnCogs x = quick();
    due(20, "slipped(0), nothing seen", x.slipped(0), 0);
    due(20, "slipped(1), nothing seen", x.slipped(1), -2);
    due(20, "slipped(2), nothing seen", x.slipped(2), 0);
    x.push(0, 1);
    due(19, "seen(1, 1)", x.seen(1, 1), true);
    due(19, "seen(2, -2)", x.seen(2, -2), true);
    due(20, "slipped(0), as they are", x.slipped(0), 0);
    due(20, "slipped(1), as they are", x.slipped(1), -2);
    due(19, "seen(2, 7)", x.seen(2, 7), true);
    due(20, "slipped(0)", x.slipped(0), 1);
    due(20, "slipped(1)", x.slipped(1), 2);
    due(20, "slipped(2)", x.slipped(2), 9);
    due(19, "seen(2, 8)", x.seen(2, 8), true);
    due(20, "slipped(0), too far", x.slipped(0), 0);
    due(20, "slipped(1), too far", x.slipped(1), -2);
    due(20, "slipped(2), too far", x.slipped(2), 0);
    x.seen(2, -11);
    due(20, "slipped(2)", x.slipped(2), -9);
    x.seen(1, 2);
    due(20, "slipped(0), two of them", x.slipped(0), 0);
    x.seen(-1, MANY);
    x.seen(0, 3);
    x.seen(1, 1);
    due(20, "slipped(1), the first", x.slipped(1), 0);
    due(20, "slipped(2), the first", x.slipped(2), 2);
    x.seen(1, 2);
    x.seen(2, -11);
    x.seen(0, 1);
    due(20, "slipped(3)", x.slipped(3), -1);
    due(20, "slipped(-1)", x.slipped(-1), -1);
    due(19, "seen(4, 0)", x.seen(4, 0), false);
    due(19, "seen(-2, 0)", x.seen(-2, 0), false);
    due(19, "seen(0, 10000)", x.seen(0, 10000), false);
    due(19, "seen(0, -10000)", x.seen(0, -10000), false);
    due(19, "count(7)", x.count(7), 7);
    due(19, "seen(0, 9999)", x.seen(0, 9999), true);
    due(19, "seen(3, -9999)", x.seen(3, -9999), true);
    due(19, "count(7)", x.count(7), 15);
    due(19, "seen(NONE, 0)", x.seen(-1, 0), true);
    due(19, "count(7)", x.count(7), 0);
    due(20, "slipped(1)", x.slipped(1), -2);
  }

  private static void comings() {
    DoorsOnCogs x = quick();
    for (int i = 1; i <= 40; i++) {
      due(21, "coming " + i, x.coming(i % 4), i);
      due(21, "coming(4)", x.coming(4), -2);
    }
    due(21, "coming 41", x.coming(0), -2);
    due(21, "count(6)", x.count(6), 40);
    due(21, "coming(-2)", x.coming(-2), -2);
    due(21, "coming(NONE)", x.coming(-1), 0);
    due(21, "count(6)", x.count(6), 0);
    due(21, "coming(3)", x.coming(3), 1);
    due(21, "coming(NONE) without a street", new DoorsOnCogs().coming(-1), 0);
  }

  private static void days() {
    DoorsOnCogs x = pair("push span if open = 0", "push 7", "push coming", "push 0 - 1;push 6");
    due(22, "day(0) without comings", x.day(0), 0);
    x.coming(0);
    x.coming(1);
    int[][] want = {{2, 2, 0, 2}, {1, 0, 1, 2}, {1, 0, 0, 2}, {1, 0, 1, 2}};
    for (int rule = 0; rule < 4; rule++) {
      for (int what = 0; what < 4; what++) {
        due(23, "would(" + rule + ", " + what + ")", x.would(rule, what), want[rule][what]);
      }
      due(23, "would(" + rule + ", 4)", x.would(rule, 4), -1);
      due(23, "would(" + rule + ", -1)", x.would(rule, -1), -1);
    }
    due(23, "would(4, 0)", x.would(4, 0), -1);
    due(23, "would(-1, 0)", x.would(-1, 0), -1);
    place(23, x, 0, 0, 1);
    x.coming(0);
    due(23, "would(0, 3), turned", x.would(0, 3), 1);
    due(22, "day(0)", x.day(0), 3);
    place(22, x, 0, 6, 1);
    place(22, x, 1, 0, 1);
    due(22, "count(6), who comes stays", x.count(6), 3);
    due(22, "day(4)", x.day(4), -1);
    due(22, "day(-1)", x.day(-1), -1);
    // Refused: a fixed one and a locked one; a mill that is open is not pushed.
    DoorsOnCogs r = told("door 9 9;fixed 0;door 9 0;door 9 9;mesh 1 2;belt 2 1;door 9 0", "push 1");
    for (int d = 0; d < 4; d++) {
      r.coming(d);
    }
    due(23, "would(0, 0)", r.would(0, 0), 2);
    due(23, "would(0, 1)", r.would(0, 1), 0);
    due(23, "would(0, 2)", r.would(0, 2), 2);
    due(23, "would(0, 3)", r.would(0, 3), 10);
    // coming counts all that came ahead, and begins anew with each day.
    DoorsOnCogs c = told("door 9 9", "push coming");
    for (int i = 0; i < 3; i++) {
      c.coming(0);
    }
    due(22, "day(0)", c.day(0), 0);
    place(22, c, 0, 3, 1);
    due(22, "day(0), again", c.day(0), 1);
    place(22, c, 0, 6, 1);
  }

  private static void worns() {
    DoorsOnCogs x = told("door 10 10;door 15 15;axle 0 1;door 7 7;belt 1 2;door 9 0",
        "push 1 if coming < 2;push 0 - 1");
    x.slip(2, 1);
    x.coming(0);
    x.coming(2);
    x.coming(0);
    long[] above = {8, 4, 4, 0};
    long[] below = {3, 1, 1, 1};
    for (int d = 0; d < 4; d++) {
      due(24, "worn(0, " + d + ", 0)", x.worn(0, d, 0), above[d]);
      due(24, "worn(0, " + d + ", 1)", x.worn(0, d, 1), below[d]);
    }
    place(24, x, 0, 0, 1);
    due(24, "worn(0, 0, 2)", x.worn(0, 0, 2), -1);
    due(24, "worn(0, 4, 0)", x.worn(0, 4, 0), -1);
    due(24, "worn(0, -1, 0)", x.worn(0, -1, 0), -1);
    due(24, "worn(1, 0, 0)", x.worn(1, 0, 0), -1);
    due(24, "worn(-1, 0, 0)", x.worn(-1, 0, 0), -1);
  }

  private static void draws() {
    DoorsOnCogs x = told("door 10 6;door 10 6", "push span", "push 7");
    due(25, "seed(5)", x.seed(5), 0);
    due(25, "seed(MANY)", x.seed(MANY), 5);
    due(25, "seed(-1)", x.seed(-1), -1);
    due(25, "seed(0)", x.seed(0), MANY);
    // From 0 on the draws are 0, 21468, 9988, 22117, 3498, 16927, 16045, 19741.
    due(26, "drawn(0, 1, 1, 0)", x.drawn(0, 1, 1, 0), 1);
    due(26, "drawn(0, 1, 3, 0)", x.drawn(0, 1, 3, 0), 3);
    due(26, "drawn(0, 1, 3, 1)", x.drawn(0, 1, 3, 1), 1);
    due(26, "drawn(0, 1, 4, 1)", x.drawn(0, 1, 4, 1), 2);
    due(26, "drawn(0, 1, 4, 2)", x.drawn(0, 1, 4, 2), 0);
    due(26, "drawn(0, 2, 4, 1), each from now on", x.drawn(0, 2, 4, 1), 4);
    due(26, "drawn(0, 2, 3, 1), x goes on", x.drawn(0, 2, 3, 1), 3);
    due(26, "drawn(1, 2, 4, 2)", x.drawn(1, 2, 4, 2), 8);
    due(26, "drawn(0, 20, 60, 0)", x.drawn(0, 20, 60, 0), 1200);
    due(26, "count(8), x is as it was", x.count(8), 0);
    due(26, "count(3), nothing turned", x.count(3), 0);
    x.seed(229283573);
    due(26, "drawn(0, 1, 3, 1), doors 1", x.drawn(0, 1, 3, 1), 1);
    due(26, "count(8), x is as it was", x.count(8), 229283573);
    due(26, "drawn(2, 1, 1, 0)", x.drawn(2, 1, 1, 0), -1);
    due(26, "drawn(-1, 1, 1, 0)", x.drawn(-1, 1, 1, 0), -1);
    due(26, "drawn(0, 0, 1, 0)", x.drawn(0, 0, 1, 0), -1);
    due(26, "drawn(0, 21, 1, 0)", x.drawn(0, 21, 1, 0), -1);
    due(26, "drawn(0, 1, 0, 0)", x.drawn(0, 1, 0, 0), -1);
    due(26, "drawn(0, 1, 61, 0)", x.drawn(0, 1, 61, 0), -1);
    due(26, "drawn(0, 1, 1, 3)", x.drawn(0, 1, 1, 3), -1);
    due(26, "drawn(0, 1, 1, -1)", x.drawn(0, 1, 1, -1), -1);
  }

  private static void counts() {
    DoorsOnCogs x = locked();
    rule(x, "push 1");
    x.coming(0);
    x.coming(4);
    x.seen(3, 0);
    x.seed(9);
    x.want(1, 6);
    x.feed(0, 0, 0, 0, 0);
    int[] want = {5, 4, 1, 15, 15, 2, 2, 8, 9, 20, 1, 6};
    for (int what = 0; what < 12; what++) {
      due(27, "count(" + what + ")", x.count(what), want[what]);
    }
    DoorsOnCogs later = told("door 9 0;door 9 0;door 9 0;mesh 1 2;belt 2 1");
    due(27, "count(4), the first is not locked", later.count(4), 6);
    for (int what : new int[] {-1, 12, MANY, FEW}) {
      due(27, "count(" + what + ")", x.count(what), -1);
    }
  }

  private static void images() {
    DoorsOnCogs x = new DoorsOnCogs();
    due(28, "image(3) without a street", x.image(3), 0);
    street(x, "door 10 6;door 10 6;mesh 0 1");
    x.slip(1, 6);
    x.want(1, 2);
    x.seen(1, 4);
    x.coming(1);
    x.seed(8);
    due(28, "image(0)", x.image(0), 2);
    x.push(0, 6);
    due(28, "image(1)", x.image(1), 1);
    rule(x, "push 1");
    street(x, "door 4 0;door 4 0;door 4 0;axle 0 2");
    x.seed(1);
    x.feed(0, 0, 0, 0, 0);
    due(29, "back(2), never made", x.back(2), -1);
    due(29, "back(4)", x.back(4), -1);
    due(29, "back(-1)", x.back(-1), -1);
    due(28, "image(4)", x.image(4), -1);
    due(28, "image(-1)", x.image(-1), -1);
    due(29, "count(0)", x.count(0), 3);
    due(29, "back(0)", x.back(0), 2);
    int[] want = {2, 1, 1, 2, 0, 1, 1, 2, 8, 20, 1, 2};
    for (int what = 0; what < 12; what++) {
      due(29, "count(" + what + ")", x.count(what), want[what]);
    }
    due(29, "slipped(2)", x.slipped(2), -2);
    due(29, "push(0, 6)", x.push(0, 6), 2);
    due(29, "back(0), again", x.back(0), 2);
    place(29, x, 1, 6, 1);
    due(29, "back(1)", x.back(1), 1);
    place(29, x, 0, 6, 1);
    due(29, "back(3), no street", x.back(3), 0);
    plansWithoutStreet(x);
    due(29, "count(0)", x.count(0), 0);
    due(29, "count(2), rules stay", x.count(2), 1);
    due(29, "day(0)", x.day(0), -1);
    due(28, "image(0), made anew", x.image(0), 0);
    due(29, "back(0), made anew", x.back(0), 0);
  }
}
