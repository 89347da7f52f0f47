/** The edges of part IV: comings, days, draws, images; promises 1 to 5, and 21 to 29. */
public final class DayEdgesTest extends Bench {
  private static final int[] NO_RULES_OF_TWO = {-1, 2, 5, 6, MANY, FEW};

  public static void main(String[] args) {
    lastCall();
    newObject();
    feeds();
    ends();
    streetsInPlace();
    emptyTape();
    numberOfComings();
    comingsWithoutThese();
    daysWithoutThese();
    openIsNotPushed();
    heldTeeth();
    notPushed();
    firstClause();
    passes();
    wordsOfDoor();
    joinsOfDoor();
    refusedPushes();
    wouldsWithoutThese();
    wornsWithoutThese();
    wornAlways();
    seeds();
    draws();
    drawsGoRound();
    drawnDays();
    drawnFromNowOn();
    drawnWithoutThese();
    countsWithoutThese();
    imagesWithoutThese();
    backsWithoutThese();
    imagesKeep();
    imagesKeepWhatWasTold();
    imagesOfTwoStreets();
    finish();
  }

  private static DoorsOnCogs twoRules() {
    return told("door 10 6;door 10 6", "push span", "push 7");
  }

  private static void lastCall() {
    sentence("An object is used for at most 512 calls");
    DoorsOnCogs x = told("door 9 0");
    // Four calls told the street: end, feed, end, street.
    for (int call = 5; call < 512; call++) {
      due("push(0, 60), call " + call, x.push(0, 60), 1);
    }
    due("place(0, 0), the 512th call", x.place(0, 0), 507 * 60);
  }

  private static void newObject() {
    sentence("DoorsOnCogs(): No STREET, no RULES");
    DoorsOnCogs x = new DoorsOnCogs();
    for (int what = 0; what < 12; what++) {
      due("count(" + what + ")", x.count(what), 0);
    }
    due("day(0)", x.day(0), NONE);
    due("door(0, 0)", x.door(0, 0), NONE);
    due("end(0)", x.end(0), 0);
    due("end(1)", x.end(1), NONE);
  }

  private static void feeds() {
    sentence("Twenty bytes come behind the TAPE, of each number the highest first: how many it "
        + "has; NONE, and none comes, if it would have more than 400");
    DoorsOnCogs x = new DoorsOnCogs();
    // "push 1 + 2 * 3 - 4/5" with a byte in each of the twenty.
    due("feed", x.feed(0x70757368, 0x2031202b, 0x2032202a, 0x2033202d, 0x20342f35), 20);
    due("rule()", x.rule(), 0);
    for (int i = 1; i <= 19; i++) {
      due("feed " + i, x.feed(0x20202020, 0x20202020, 0x20202020, 0x20202020, 0x20202020), 20 * i);
    }
    due("end(379)", x.end(379), 379);
    due("feed at 379", x.feed(0x70757368, 0x20312020, 0x20202020, 0x20202020, 0x20202020), 399);
    due("feed at 399", x.feed(-1, -1, -1, -1, -1), NONE);
    due("count(9)", x.count(9), 399);
    due("end(381)", x.end(381), 381);
    due("feed at 381, the first that is too many", x.feed(-1, -1, -1, -1, -1), NONE);
    due("count(9)", x.count(9), 381);
    due("end(380)", x.end(380), 380);
    due("feed at 380", x.feed(0x75736820, 0x31202020, 0x20202020, 0x20202020, 0x20202020), 400);
    due("feed at 400", x.feed(-1, -1, -1, -1, -1), NONE);
    due("count(9)", x.count(9), 400);
    due("rule(), the tape is as it was", x.rule(), 1);
    // Bytes of 128 and more are bytes, not less than 0.
    x.feed(-1, -1, -1, -1, -1);
    due("street of bytes 255", x.street(), fault(0, 0));
  }

  private static void ends() {
    sentence("The TAPE has its first n bytes alone: n; NONE, and nothing happens, if it has not so "
        + "many, or n is below 0");
    DoorsOnCogs x = new DoorsOnCogs();
    write(x, "door 60 60");
    for (int n : new int[] {11, 20, 400, 401, MANY, -1, FEW}) {
      due("end(" + n + ")", x.end(n), NONE);
      due("count(9)", x.count(9), 10);
    }
    due("end(10)", x.end(10), 10);
    due("end(9)", x.end(9), 9);
    due("end(10), it has 9", x.end(10), NONE);
    due("street(), its first 9 bytes", x.street(), 1);
    due("door(0, 1)", x.door(0, 1), 6);
    due("end(1), it is empty", x.end(1), NONE);
    due("end(0), it is empty", x.end(0), 0);
  }

  private static void streetsInPlace() {
    sentence("is the STREET in place of the one there was (nothing WANTED, SEEN, no COMINGS; x "
        + "stays)");
    DoorsOnCogs x = twoRules();
    x.slip(0, 6);
    x.want(1, 2);
    x.seen(0, 3);
    x.coming(1);
    x.seed(MANY);
    due("street of more doors", street(x, "door 10 6;door 4 0;door 4 0;belt 1 2"), 3);
    int[] more = {3, 1, 2, 6, 0, 2, 0, 0, MANY, 0, 0, 0};
    for (int what = 0; what < 12; what++) {
      due("count(" + what + ")", x.count(what), more[what]);
    }
    duePlace(x, 0, 0, 1);
    due("slipped(0)", x.slipped(0), 0);
    x.coming(2);
    due("street of one door", street(x, "door 9 9"), 1);
    due("door(1, 0), no more", x.door(1, 0), NONE);
    due("join(0, 0), no more", x.join(0, 0), NONE);
    due("count(5)", x.count(5), 1);
    due("seen(1, 0), no more", x.seen(1, 0), false);
    due("day(0), rules stay", x.day(0), 0);
  }

  private static void emptyTape() {
    sentence("The TAPE, which is empty then");
    DoorsOnCogs x = new DoorsOnCogs();
    street(x, "door 9 9");
    due("count(9), behind a street", x.count(9), 0);
    street(x, "door 9 99");
    due("count(9), behind a street with a fault", x.count(9), 0);
    due("count(0), all stays", x.count(0), 1);
    rule(x, "push 1");
    due("count(9), behind a rule", x.count(9), 0);
    rule(x, "push x");
    due("count(9), behind a rule with a fault", x.count(9), 0);
    due("count(2), the one with a fault is none", x.count(2), 1);
    due("rule(), its number", rule(x, "push 2"), 1);
    sentence("NONE, and nothing happens: there are 6");
    for (int i = 2; i < 6; i++) {
      due("rule()", rule(x, "push 1"), i);
    }
    due("rule()", rule(x, "door 9 0;door 9 0"), NONE);
    due("count(9)", x.count(9), 17);
    due("street(), that tape", x.street(), 2);
  }

  private static void numberOfComings() {
    sentence("COMINGS 0 to 39; -2, and nothing happens, if there are 40");
    DoorsOnCogs x = told("door 60 60;door 60 60", "push 1");
    for (int i = 1; i <= 39; i++) {
      due("coming " + i, x.coming(0), i);
    }
    due("would(0, 1)", x.would(0, 1), 30);
    due("coming 40", x.coming(1), 40);
    due("would(0, 1), the last counts", x.would(0, 1), 31);
    due("coming 41", x.coming(1), -2);
    due("count(6)", x.count(6), 40);
    due("would(0, 1), as it was", x.would(0, 1), 31);
    due("coming(NONE)", x.coming(NONE), 0);
    due("count(6)", x.count(6), 0);
    due("would(0, 1), nobody", x.would(0, 1), 0);
    due("coming 1", x.coming(1), 1);
  }

  private static void comingsWithoutThese() {
    sentence("A COMING (door NONE: there are none then, 0); -2, and nothing happens, without these");
    DoorsOnCogs x = twoRules();
    due("coming(NONE), there are none", x.coming(NONE), 0);
    for (int d : new int[] {-2, 2, 12, 32, MANY, FEW}) {
      due("coming(" + d + ")", x.coming(d), -2);
      due("count(6)", x.count(6), 0);
    }
    due("coming(1)", x.coming(1), 1);
    DoorsOnCogs none = new DoorsOnCogs();
    due("coming(0) without a street", none.coming(0), -2);
    due("coming(NONE) without a street", none.coming(NONE), 0);
    DoorsOnCogs twelve = told("door 4 0;".repeat(11) + "door 4 0");
    due("coming(11)", twelve.coming(11), 1);
    due("coming(12)", twelve.coming(12), -2);
  }

  private static void daysWithoutThese() {
    sentence("A DAY; NONE, and nothing happens, without that RULE, or a STREET");
    DoorsOnCogs x = twoRules();
    x.coming(0);
    for (int r : NO_RULES_OF_TWO) {
      due("day(" + r + ")", x.day(r), NONE);
      duePlace(x, 0, 0, 1);
    }
    due("day(1)", x.day(1), 0);
    due("day(0)", x.day(0), 1);
    duePlace(x, 0, 6, 1);
    DoorsOnCogs ruled = new DoorsOnCogs();
    rule(ruled, "push 1");
    due("day(0) without a street", ruled.day(0), NONE);
    due("would(0, 0) without a street", ruled.would(0, 0), NONE);
    due("worn(0, 0, 0) without a street", ruled.worn(0, 0, 0), NONE);
    due("drawn(0, 1, 1, 0) without a street", ruled.drawn(0, 1, 1, 0), NONE);
    DoorsOnCogs street = told("door 9 9");
    due("day(0) without a rule", street.day(0), NONE);
    due("would(0, 0) without a rule", street.would(0, 0), NONE);
    due("worn(0, 0, 0) without a rule", street.worn(0, 0, 0), NONE);
    due("drawn(0, 1, 1, 0) without a rule", street.drawn(0, 1, 1, 0), NONE);
    sentence("RULES 0 to 5 (a DAY by the last)");
    DoorsOnCogs six = told("door 60 60", "push 1", "push 2", "push 3", "push 4", "push 5", "push 30");
    six.coming(0);
    due("day(6)", six.day(6), NONE);
    due("day(5)", six.day(5), 1);
    duePlace(six, 0, 30, 1);
  }

  private static void openIsNotPushed() {
    sentence("if the DOOR is not OPEN, the first CLAUSE says by how many teeth it is PUSHED");
    DoorsOnCogs x = told("door 10 6", "push 1");
    for (int i = 0; i < 4; i++) {
      x.coming(0);
    }
    // At 0, 1 and 2 it is shut, at 3 open: three pushes, and two pass.
    due("would(0, 1)", x.would(0, 1), 3);
    due("day(0)", x.day(0), 2);
    duePlace(x, 0, 3, 1);
    due("day(0), open at first", x.day(0), 4);
    duePlace(x, 0, 3, 1);
  }

  private static void heldTeeth() {
    sentence("by how many teeth it is PUSHED (held to -60 to 60; 0: it is not PUSHED)");
    int[][] want = {{59, 59}, {60, 60}, {61, 60}, {99999, 60}, {1, 1}, {0, 0}};
    for (int[] w : want) {
      dueSum("" + w[0], w[1]);
      dueSum("0-" + w[0], -w[1]);
    }
    // A door of 59 can't be pushed by 60, which 61 is held to.
    DoorsOnCogs x = told("door 60 59;door 60 60", "push 61", "push 60", "push 59");
    x.coming(0);
    x.coming(1);
    due("would(0, 0)", x.would(0, 0), 1);
    due("would(0, 2)", x.would(0, 2), 1);
    due("would(1, 0)", x.would(1, 0), 1);
    due("would(2, 0)", x.would(2, 0), 2);
  }

  private static void notPushed() {
    sentence("0, or none: it is not PUSHED");
    DoorsOnCogs x = told("door 9 9", "push 0", "push 5 if 1 = 2", "push 5 if 1=2;push 0",
        "push 0 if 1=1;push 5");
    x.coming(0);
    for (int r = 0; r < 4; r++) {
      for (int what = 0; what < 4; what++) {
        due("would(" + r + ", " + what + ")", x.would(r, what), 0);
      }
      due("worn(" + r + ", 0, 0)", x.worn(r, 0, 0), 0);
      due("worn(" + r + ", 0, 1)", x.worn(r, 0, 1), 1);
    }
  }

  private static void firstClause() {
    sentence("the first CLAUSE without a TEST, or whose TEST holds");
    dueSum("1;push 2", 1);
    dueSum("1 if 1=1;push 2", 1);
    dueSum("1 if 1=2;push 2", 2);
    dueSum("1 if 1=2;push 2 if 1=1;push 3", 2);
    dueSum("1 if 1=2;push 2 if 1=2", 0);
  }

  private static void passes() {
    sentence("if it is OPEN then, who comes PASSES");
    DoorsOnCogs x = told("door 10 6", "push 2", "push 3", "push 7");
    x.coming(0);
    due("would(0, 0), at 2 of 6", x.would(0, 0), 0);
    due("would(1, 0), at 3 of 6", x.would(1, 0), 1);
    due("would(2, 0), it can't be", x.would(2, 0), 0);
    due("would(0, 3)", x.would(0, 3), 0);
    due("would(1, 3)", x.would(1, 3), 1);
  }

  private static void wordsOfDoor() {
    sentence("WORDS of a DOOR");
    due("place, downwards, at -1/2", placeWord(-1), -1);
    due("place, downwards, at -1", placeWord(-2), -1);
    due("place, downwards, at -3/2", placeWord(-3), -2);
    due("place, downwards, at 5/2", placeWord(5), 2);
    due("place, downwards, at 3", placeWord(6), 3);
    DoorsOnCogs x = told("door 9 9;door 9 9;door 9 0;mesh 0 1;belt 0 1", "push coming-38 if door=2",
        "push opens", "push joins-1", "push open+1", "push span-8", "push teeth-8");
    x.slip(2, 5);
    for (int i = 0; i < 39; i++) {
      x.coming(0);
    }
    x.coming(2);
    due("would(0, 1), coming is 39 for the last", x.would(0, 1), 1);
    due("worn(0, 2, 0), coming is 39 for the last", x.worn(0, 2, 0), 1);
    due("would(1, 2), opens is 0", x.would(1, 2), 0);
    due("would(2, 2), joins is 2 and 0", x.would(2, 2), 39);
    due("worn(2, 2, 0), joins is 2 and 0", x.worn(2, 2, 0), 1);
    due("worn(3, 2, 0), open is 0", x.worn(3, 2, 0), 1);
    due("worn(4, 2, 0), span is 0", x.worn(4, 2, 0), 8);
    due("worn(5, 2, 0), teeth are 9", x.worn(5, 2, 0), 1);
    x.coming(NONE);
    x.coming(2);
    due("worn(0, 2, 0), coming is 0", x.worn(0, 2, 0), 38);
    // Joins of a street before count no more.
    street(x, "door 9 9;door 9 9;belt 0 1");
    street(x, "door 9 9");
    x.coming(0);
    due("would(2, 2), joins is 0", x.would(2, 2), 1);
    due("would(3, 1), open is 0", x.would(3, 1), 1);
    street(x, "door 9 0;door 9 9");
    x.coming(1);
    due("worn(1, 1, 0), opens is 1", x.worn(1, 1, 0), 1);
  }

  private static void joinsOfDoor() {
    sentence("joins (JOINS it has)");
    DoorsOnCogs x = told("door 60 0;door 60 0;door 60 0;door 60 0;belt 0 1;mesh 2 1;belt 1 0",
        "push joins * 10 + 1");
    int[] joins = {2, 3, 1, 0};
    for (int d = 0; d < 4; d++) {
      x.slip(d, 30);
      x.coming(NONE);
      x.coming(d);
      due("worn(0, " + d + ", 0)", x.worn(0, d, 0), joins[d] * 10 + 1);
    }
  }

  /** What the word place is worth at so many halves of a tooth of a mill that is shut there. */
  private static long placeWord(int halves) {
    DoorsOnCogs x = told("door 5 0;door 10 0;axle 0 1", "push place");
    x.push(1, halves);
    long at = x.place(1, 0);
    x.coming(0);
    x.day(0);
    return (x.place(1, 0) - at) / 2;
  }

  private static void refusedPushes() {
    sentence("PUSHED: how often something turned; REFUSED: how often a PUSH could not be");
    DoorsOnCogs x = told("door 9 9;fixed 0;door 9 9;door 9 0;mesh 1 2;belt 1 2;door 9 9;door 9 0",
        "push 9", "push 10");
    for (int d = 0; d < 5; d++) {
      x.coming(d);
    }
    int[][] want = {{3, 1, 2, 28}, {2, 0, 3, 20}};
    for (int r = 0; r < 2; r++) {
      for (int what = 0; what < 4; what++) {
        due("would(" + r + ", " + what + ")", x.would(r, what), want[r][what]);
      }
    }
  }

  private static void wouldsWithoutThese() {
    sentence("What a DAY would be (nothing happens) what 0 to 3; NONE without these");
    DoorsOnCogs x = twoRules();
    x.coming(0);
    for (int what : new int[] {-1, 4, MANY, FEW}) {
      due("would(0, " + what + ")", x.would(0, what), NONE);
    }
    for (int r : NO_RULES_OF_TWO) {
      due("would(" + r + ", 0)", x.would(r, 0), NONE);
    }
    int[] want = {1, 1, 0, 1};
    for (int what = 0; what < 4; what++) {
      due("would(0, " + what + ")", x.would(0, what), want[what]);
      duePlace(x, 0, 0, 1);
    }
    x.coming(NONE);
    for (int what = 0; what < 4; what++) {
      due("would(0, " + what + ") without comings", x.would(0, what), 0);
    }
  }

  private static void wornsWithoutThese() {
    sentence("WORN in a DAY that would be; NONE without these");
    DoorsOnCogs x = twoRules();
    x.coming(0);
    for (int part : new int[] {-1, 2, MANY, FEW}) {
      due("worn(0, 0, " + part + ")", x.worn(0, 0, part), NONE);
    }
    for (int d : new int[] {-1, 2, 12, 32, MANY, FEW}) {
      due("worn(0, " + d + ", 0)", x.worn(0, d, 0), NONE);
    }
    for (int r : NO_RULES_OF_TWO) {
      due("worn(" + r + ", 0, 1)", x.worn(r, 0, 1), NONE);
    }
    due("worn(0, 0, 0)", x.worn(0, 0, 0), 6);
    due("worn(0, 0, 1)", x.worn(0, 0, 1), 1);
    due("worn(0, 1, 0), who did not turn", x.worn(0, 1, 0), 0);
    due("worn(0, 1, 1), who did not turn", x.worn(0, 1, 1), 1);
    duePlace(x, 0, 0, 1);
  }

  private static void wornAlways() {
    sentence("by how many teeth it turned in a DAY, all together (as if always the same way)");
    DoorsOnCogs x = told("door 60 60;door 4 0;mesh 0 1;door 60 0;axle 1 2",
        "push 1 if place = 0;push 0 - 1");
    for (int i = 0; i < 4; i++) {
      x.coming(0);
    }
    long[][] want = {{4, 1}, {4, 1}, {60, 1}};
    for (int d = 0; d < 3; d++) {
      due("worn(0, " + d + ", 0)", x.worn(0, d, 0), want[d][0]);
      due("worn(0, " + d + ", 1)", x.worn(0, d, 1), want[d][1]);
    }
    DoorsOnCogs slow = told("door 4 4;door 60 60;axle 0 1", "push 1");
    for (int i = 0; i < 7; i++) {
      slow.coming(1);
    }
    due("worn(0, 0, 0), 7 fifteenths", slow.worn(0, 0, 0), 7);
    due("worn(0, 0, 1), 7 fifteenths", slow.worn(0, 0, 1), 15);
    slow.day(0);
    due("worn(0, 0, 0), of that day alone", slow.worn(0, 0, 0), 7);
  }

  private static void seeds() {
    sentence("x becomes a number: what it was; NONE, and nothing happens, below 0");
    DoorsOnCogs x = new DoorsOnCogs();
    due("seed(MANY)", x.seed(MANY), 0);
    due("seed(-1)", x.seed(-1), NONE);
    due("seed(FEW)", x.seed(FEW), NONE);
    due("count(8)", x.count(8), MANY);
    due("seed(0)", x.seed(0), MANY);
    due("count(8)", x.count(8), 0);
    due("seed(1)", x.seed(1), 0);
    due("seed(1)", x.seed(1), 1);
  }

  /** Which door of twelve the first draw from x on is at. */
  private static int firstDrawn(int x) {
    DoorsOnCogs o = told("door 4 4;".repeat(11) + "door 4 4", "push 4 if door=0 or door=2 or door=4 "
        + "or door=6 or door=8 or door=10", "push 4 if door/2=1 or door/2=3 or door/2=5",
        "push 4 if door/4=1", "push 4 if door/8=1");
    o.seed(x);
    int door = 1 - o.drawn(0, 1, 1, 0);
    for (int r = 1; r < 4; r++) {
      door += o.drawn(r, 1, 1, 0) << r;
    }
    return door;
  }

  private static void draws() {
    sentence("a DRAW is x / 65536; at DOORS by DRAWS mod DOORS");
    // The first draw is 0 of 12345, and of 65535; 1 of 65536; 32766 and 32767 at the top.
    int[][] want = {{0, 0}, {2088216195, 0}, {2032319262, 0}, {1742513795, 1}, {576240414, 6},
        {286434947, 7}, {230538014, 7}};
    for (int[] w : want) {
      due("the door drawn from " + w[0], firstDrawn(w[0]), w[1]);
    }
  }

  private static void drawsGoRound() {
    sentence("x becomes x * 1103515245 + 12345, of 2147483648 the rest");
    due("the door drawn from MANY", firstDrawn(MANY), 5);
    // From 0 on: doors 0, 0, 4, 1, 6, 7, 1, 1 of twelve.
    int[] doors = {0, 0, 4, 1, 6, 7, 1, 1};
    for (int i = 0; i < doors.length; i++) {
      DoorsOnCogs x = told("door 4 4;".repeat(11) + "door 4 4",
          "push 4 if coming=" + i + " and door=" + doors[i]);
      due("drawn(0, 1, " + (i + 1) + ", 1)", x.drawn(0, 1, i + 1, 1), 1);
      due("drawn(0, 1, " + i + ", 1)", x.drawn(0, 1, i, 1), i == 0 ? NONE : 0);
    }
    DoorsOnCogs one = told("door 4 4", "push 4");
    one.seed(MANY);
    due("drawn(0, 20, 60, 0), a single door", one.drawn(0, 20, 60, 0), 1200);
  }

  private static void drawnDays() {
    sentence("m times (1 to 20) a DAY, with n COMINGS (1 to 60)");
    DoorsOnCogs x = told("door 60 60", "push 1", "push 7 if coming=59", "push 60 if coming=59");
    due("drawn(0, 1, 1, 1)", x.drawn(0, 1, 1, 1), 1);
    due("drawn(0, 20, 1, 1)", x.drawn(0, 20, 1, 1), 20);
    due("drawn(0, 1, 60, 1)", x.drawn(0, 1, 60, 1), 30);
    due("drawn(0, 1, 60, 0)", x.drawn(0, 1, 60, 0), 31);
    due("drawn(0, 20, 60, 0)", x.drawn(0, 20, 60, 0), 620);
    due("drawn(1, 20, 60, 1), the 60th coming", x.drawn(1, 20, 60, 1), 20);
    due("drawn(1, 20, 59, 1), one less", x.drawn(1, 20, 59, 1), 0);
    due("drawn(2, 20, 60, 0), the 60th passes", x.drawn(2, 20, 60, 0), 20);
    due("drawn(0, 0, 1, 1)", x.drawn(0, 0, 1, 1), NONE);
    due("drawn(0, 21, 1, 1)", x.drawn(0, 21, 1, 1), NONE);
    due("drawn(0, 1, 0, 1)", x.drawn(0, 1, 0, 1), NONE);
    due("drawn(0, 1, 61, 1)", x.drawn(0, 1, 61, 1), NONE);
  }

  private static void drawnFromNowOn() {
    sentence("from now on (nothing else changes; x goes on, and is as it was behind it)");
    DoorsOnCogs x = told("door 10 6;door 10 6", "push 3");
    x.seed(77);
    x.coming(1);
    x.slip(0, 3);
    int before = x.drawn(0, 4, 5, 1);
    due("drawn(0, 4, 5, 1), again", x.drawn(0, 4, 5, 1), before);
    due("count(8)", x.count(8), 77);
    due("count(6)", x.count(6), 1);
    duePlace(x, 0, 3, 1);
    duePlace(x, 1, 0, 1);
    // Four days, each with a push of door 1 at most, for door 0 is open.
    x.seed(0);
    due("drawn(0, 2, 4, 1), each from now on", x.drawn(0, 2, 4, 1), 2);
  }

  private static void drawnWithoutThese() {
    sentence("DRAWN DAYS what 0 to 2; NONE without these (no STREET)");
    DoorsOnCogs x = twoRules();
    for (int bad : new int[] {-1, 3, MANY, FEW}) {
      due("drawn(0, 1, 1, " + bad + ")", x.drawn(0, 1, 1, bad), NONE);
    }
    for (int bad : new int[] {-1, 0, 21, MANY, FEW}) {
      due("drawn(0, " + bad + ", 1, 0)", x.drawn(0, bad, 1, 0), NONE);
    }
    for (int bad : new int[] {-1, 0, 61, MANY, FEW}) {
      due("drawn(0, 1, " + bad + ", 0)", x.drawn(0, 1, bad, 0), NONE);
    }
    for (int bad : NO_RULES_OF_TWO) {
      due("drawn(" + bad + ", 1, 1, 0)", x.drawn(bad, 1, 1, 0), NONE);
    }
    due("drawn(1, 1, 1, 2)", x.drawn(1, 1, 1, 2), 1);
  }

  private static void countsWithoutThese() {
    sentence("What 0 to 11; NONE for others");
    DoorsOnCogs x = told("door 4 0;".repeat(12) + "belt 0 11;mesh 0 11");
    int[] want = {12, 2, 0, 4095, 2049, 11, 0, 0, 0, 0, 0, 0};
    for (int what = 0; what < 12; what++) {
      due("count(" + what + ")", x.count(what), want[what]);
    }
    for (int what : new int[] {-1, 12, 13, MANY, FEW}) {
      due("count(" + what + ")", x.count(what), NONE);
      due("count(" + what + ") on a new object", new DoorsOnCogs().count(what), NONE);
    }
    x.want(2048, 2047);
    x.seen(11, 0);
    due("count(7)", x.count(7), 2048);
    due("count(10)", x.count(10), 2048);
    due("count(11)", x.count(11), 2047);
  }

  private static void imagesWithoutThese() {
    sentence("IMAGES 0 to 3; An IMAGE is made: OPEN ones as bits; NONE without it");
    DoorsOnCogs x = told("door 9 9;door 9 0");
    for (int k : new int[] {-1, 4, 32, MANY, FEW}) {
      due("image(" + k + ")", x.image(k), NONE);
    }
    due("image(0)", x.image(0), 2);
    due("image(3)", x.image(3), 2);
    x.slip(0, 9);
    due("image(3), made anew", x.image(3), 3);
    due("back(0)", x.back(0), 2);
    due("back(3)", x.back(3), 3);
    due("image(0) without a street", new DoorsOnCogs().image(0), 0);
  }

  private static void backsWithoutThese() {
    sentence("All is as in an IMAGE; NONE, and nothing happens, if it was never made, or without it");
    DoorsOnCogs x = told("door 9 9");
    x.image(1);
    x.slip(0, 9);
    for (int k : new int[] {0, 2, 3, -1, 4, 33, MANY, FEW}) {
      due("back(" + k + ")", x.back(k), NONE);
      duePlace(x, 0, 9, 1);
    }
    due("back(1)", x.back(1), 0);
    duePlace(x, 0, 0, 1);
    due("back(0), on a new object", new DoorsOnCogs().back(0), NONE);
  }

  private static void imagesKeep() {
    sentence("all but the TAPE and the RULES, as it is; gone back to, it is as it was (these stay)");
    DoorsOnCogs x = new DoorsOnCogs();
    x.image(0);
    street(x, "door 4 4;door 60 0;axle 0 1;fixed 0");
    x.push(1, 7);
    x.want(1, 2);
    x.seen(0, 2);
    x.coming(1);
    x.seed(5);
    x.image(1);
    due("back(0), no street", x.back(0), 0);
    rule(x, "push 1");
    x.feed(0, 0, 0, 0, 0);
    int[] bare = {0, 0, 1, 0, 0, 0, 0, 0, 0, 20, 0, 0};
    for (int what = 0; what < 12; what++) {
      due("count(" + what + ") without a street", x.count(what), bare[what]);
    }
    due("door(0, 0) without a street", x.door(0, 0), NONE);
    due("planned(0, 0) without a street", x.planned(0, 0), NONE);
    due("back(1)", x.back(1), 2);
    int[] full = {2, 1, 1, 2, 0, 1, 1, 1, 5, 20, 1, 2};
    for (int what = 0; what < 12; what++) {
      due("count(" + what + ") with its street", x.count(what), full[what]);
    }
    duePlace(x, 0, 7, 15);
    due("door(0, 2)", x.door(0, 2), 1);
    due("slipped(2)", x.slipped(2), 2);
    due("day(0), by the rule that stays", x.day(0), 1);
    due("image(1) as a copy: back(1)", x.back(1), 2);
    x.push(1, 1);
    duePlace(x, 0, 8, 15);
    x.back(1);
    duePlace(x, 0, 7, 15);
  }

  private static void imagesKeepWhatWasTold() {
    sentence("all as it is; gone back to, it is as it was (what was SEEN, and who comes, too)");
    DoorsOnCogs x = told("door 60 60;door 60 60", "push 1");
    x.seen(0, 3);
    x.coming(0);
    x.coming(1);
    x.coming(1);
    x.image(0);
    x.seen(0, 4);
    x.coming(NONE);
    for (int i = 0; i < 3; i++) {
      x.coming(0);
    }
    x.image(1);
    int[][] want = {{3, 1, 2}, {4, 3, 0}};
    for (int k : new int[] {0, 1, 0}) {
      x.back(k);
      due("slipped(2) as in image " + k, x.slipped(2), want[k][0]);
      due("worn(0, 0, 0) as in image " + k, x.worn(0, 0, 0), want[k][1]);
      due("worn(0, 1, 0) as in image " + k, x.worn(0, 1, 0), want[k][2]);
    }
  }

  private static void imagesOfTwoStreets() {
    sentence("all as it is; gone back to, it is as it was (the STREET, too)");
    DoorsOnCogs x = told("door 5 0;door 10 0;axle 0 1");
    x.push(1, 3);
    x.image(2);
    street(x, "door 8 8;door 9 9;door 10 6;mesh 1 2;belt 1 2;fixed 0");
    x.slip(1, 5);
    x.image(1);
    due("back(2)", x.back(2), 3);
    duePlace(x, 0, 3, 2);
    due("count(4)", x.count(4), 0);
    due("door(0, 2)", x.door(0, 2), 0);
    due("join(0, 2)", x.join(0, 2), 2);
    due("ratio(0, 1, 0)", x.ratio(0, 1, 0), 2);
    due("push(1, 1)", x.push(1, 1), 2);
    due("back(1)", x.back(1), 2);
    due("count(4)", x.count(4), 6);
    due("door(0, 2)", x.door(0, 2), 1);
    due("join(0, 2)", x.join(0, 2), 0);
    duePlace(x, 1, 5, 1);
    due("push(1, 1)", x.push(1, 1), -3);
    due("back(2), as it was then", x.back(2), 3);
    duePlace(x, 0, 3, 2);
    duePlace(x, 1, 3, 1);
  }
}
