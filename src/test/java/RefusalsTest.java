import java.util.function.Supplier;

/**
 * Refused calls, and calls that only ask: behind each of them an object has to be as its twin on
 * which the call was never made.
 */
public final class RefusalsTest extends Bench {
  private static final Supplier<DoorsOnCogs> NEW = DoorsOnCogs::new;
  private static final Supplier<DoorsOnCogs> RULED = RefusalsTest::ruled;
  private static final Supplier<DoorsOnCogs> RICH = RefusalsTest::rich;
  private static final Supplier<DoorsOnCogs> FULL = RefusalsTest::full;

  // Doors of the rich street: 0 and 1 on an axle, 2 fixed, 3 and 4 locked, 5 and 6 mesh.
  private static final int[] NO_DOORS = {-2, 7, 11, 12, 31, 32, MANY, FEW};
  private static final int[] NO_RULES = {-1, 2, 5, 6, MANY, FEW};
  private static final int[] NO_SETS = {-1, 128, 4096, MANY, FEW};

  public static void main(String[] args) {
    twinsTell();
    feedsAndEnds();
    streets();
    rules();
    pushes();
    slips();
    wants();
    seens();
    comings();
    days();
    seeds();
    images();
    asking();
    askingForNone();
    finish();
  }

  /** All kinds of doors, places, wants, comings, images 0 and 2, and a rule on the tape. */
  private static DoorsOnCogs rich() {
    DoorsOnCogs x = told("door 4 4;door 60 0;axle 0 1;door 9 9;fixed 2;door 9 0;door 9 9;mesh 3 4;"
        + "belt 3 4;door 10 6;door 10 6;mesh 5 6", "push coming + door", "push span - place if door < 7");
    x.image(0);
    x.push(1, 7);
    x.slip(6, 6);
    x.push(5, 1);
    x.slip(4, 5);
    x.want(33, 64);
    x.seen(1, 9);
    x.seed(4711);
    for (int door : new int[] {5, 0, 2, 3, 6, 1, 5}) {
      x.coming(door);
    }
    x.image(2);
    x.slip(2, 3);
    write(x, "push 3 if place > 1");
    return x;
  }

  private static DoorsOnCogs ruled() {
    DoorsOnCogs x = new DoorsOnCogs();
    rule(x, "push 1");
    x.seed(9);
    write(x, "push 2");
    return x;
  }

  /** Six rules, forty comings, and a tape of 400 bytes. */
  private static DoorsOnCogs full() {
    DoorsOnCogs x = told("door 9 9;door 9 0", "push 1", "push 2", "push 3", "push 4", "push 5",
        "push coming/9");
    for (int i = 0; i < 40; i++) {
      x.coming(i % 2);
    }
    write(x, "door 5 5" + " ".repeat(383) + ";door 6 6");
    return x;
  }

  private static void refused(String name, Call call, long want) {
    dueRefused(RICH, name, call, want);
  }

  private static void taken(String name, Call call, long want) {
    dueTaken(RICH, name, call, want);
  }

  private static void twinsTell() {
    sentence("a twin tells every change");
    taken("feed", x -> x.feed(0, 0, 0, 0, 0), 39);
    taken("end(18)", x -> x.end(18), 18);
    taken("end(0)", x -> x.end(0), 0);
    taken("push(5, 1)", x -> x.push(5, 1), 2);
    taken("push(1, 1)", x -> x.push(1, 1), 2);
    taken("slip(3, 1), locked", x -> bit(x.slip(3, 1)), 1);
    taken("slip(2, -3), fixed", x -> bit(x.slip(2, -3)), 1);
    taken("want(33, 0)", x -> bit(x.want(33, 0)), 1);
    taken("seen(1, 10)", x -> bit(x.seen(1, 10)), 1);
    taken("seen(0, 0)", x -> bit(x.seen(0, 0)), 1);
    taken("seen(NONE, 0)", x -> bit(x.seen(NONE, 0)), 1);
    taken("coming(6)", x -> x.coming(6), 8);
    taken("coming(NONE)", x -> x.coming(NONE), 0);
    taken("day(1)", x -> x.day(1), 5);
    taken("seed(4712)", x -> x.seed(4712), 4711);
    taken("image(2), made anew", x -> x.image(2), 90);
    taken("image(1)", x -> x.image(1), 90);
    taken("back(0)", x -> x.back(0), 10);
    taken("back(2)", x -> x.back(2), 90);
    taken("rule()", DoorsOnCogs::rule, 2);
    taken("street(), a fault that empties the tape", DoorsOnCogs::street, fault(0, 0));
    dueTaken(FULL, "street()", DoorsOnCogs::street, 2);
    dueTaken(FULL, "end(399)", x -> x.end(399), 399);
  }

  private static void feedsAndEnds() {
    sentence("NONE, and none comes, if it would have more than 400");
    dueRefused(FULL, "feed at 400", x -> x.feed(0, 0, 0, 0, 0), NONE);
    sentence("NONE, and nothing happens, if it has not so many, or n is below 0");
    for (int n : new int[] {20, 400, 401, MANY, -1, FEW}) {
      refused("end(" + n + ")", x -> x.end(n), NONE);
    }
    refused("end(19), all it has", x -> x.end(19), 19);
    dueRefused(FULL, "end(400), all it has", x -> x.end(400), 400);
    dueRefused(FULL, "end(401)", x -> x.end(401), NONE);
    dueRefused(NEW, "end(1)", x -> x.end(1), NONE);
    dueRefused(NEW, "end(0)", x -> x.end(0), 0);
  }

  private static void streets() {
    sentence("-2 - its FAULT, and all stays");
    String[] texts = {"", "door 9 0;", "door 9 9;door 9 9;fixed 2", "door 4 0;".repeat(13),
        "door 9 0;door 9 0;axle 0 1;axle 0 1;axle 0 1;axle 0 1", "mesh 0 1", "push 1"};
    int[] faults = {fault(0, 0), fault(9, 0), fault(24, 1), fault(108, 4), fault(45, 4), fault(5, 1),
        fault(0, 0)};
    for (int i = 0; i < texts.length; i++) {
      String text = texts[i];
      // The tape is used up, so it is emptied ahead on both twins.
      dueRefused(RefusalsTest::richWithoutTape, "street of '" + text + "'", x -> street(x, text),
          faults[i]);
      dueRefused(NEW, "street of '" + text + "', new", x -> street(x, text), faults[i]);
    }
  }

  private static DoorsOnCogs richWithoutTape() {
    DoorsOnCogs x = rich();
    x.end(0);
    return x;
  }

  private static void rules() {
    sentence("a RULE: -2 - its FAULT");
    dueRefused(RefusalsTest::richWithoutTape, "rule of 'push 1;'", x -> rule(x, "push 1;"),
        fault(7, 0));
    dueRefused(RefusalsTest::richWithoutTape, "rule of ''", DoorsOnCogs::rule, fault(0, 0));
    dueRefused(NEW, "rule of 'push x'", x -> rule(x, "push x"), fault(5, 0));
    sentence("NONE, and nothing happens: there are 6");
    dueRefused(FULL, "rule()", DoorsOnCogs::rule, NONE);
  }

  private static void pushes() {
    sentence("A PUSH: NONE without these; it can't be (nothing turns then)");
    for (int d : NO_DOORS) {
      refused("push(" + d + ", 1)", x -> x.push(d, 1), NONE);
    }
    refused("push(-1, 1)", x -> x.push(-1, 1), NONE);
    for (int n : new int[] {0, 61, -61, MANY, FEW}) {
      refused("push(1, " + n + ")", x -> x.push(1, n), NONE);
    }
    refused("push(2, 1), fixed", x -> x.push(2, 1), -2);
    refused("push(3, 1), locked", x -> x.push(3, 1), -3);
    refused("push(4, -1), locked", x -> x.push(4, -1), -3);
    refused("push(5, 6), jams at 5 and 6", x -> x.push(5, 6), -15);
    refused("push(6, 2), jams at 5", x -> x.push(6, 2), -15);
    refused("push(1, -8), jams at 0", x -> x.push(1, -8), -10);
    taken("push(6, 1), the last that goes", x -> x.push(6, 1), 2);
    taken("push(1, -7), the last that goes", x -> x.push(1, -7), 2);
    dueRefused(NEW, "push(0, 1)", x -> x.push(0, 1), NONE);
  }

  private static void slips() {
    sentence("A DOOR SLIPS: false, and nothing happens, without these, or if it would come beyond "
        + "its SPAN");
    for (int d : NO_DOORS) {
      refused("slip(" + d + ", 1)", x -> bit(x.slip(d, 1)), 0);
    }
    refused("slip(-1, 1)", x -> bit(x.slip(-1, 1)), 0);
    for (int n : new int[] {61, -61, MANY, FEW}) {
      refused("slip(1, " + n + ")", x -> bit(x.slip(1, n)), 0);
    }
    taken("slip(1, 60)", x -> bit(x.slip(1, 60)), 1);
    taken("slip(1, -60)", x -> bit(x.slip(1, -60)), 1);
    refused("slip(2, 7), at 3 of 9", x -> bit(x.slip(2, 7)), 0);
    taken("slip(2, 6), at 3 of 9", x -> bit(x.slip(2, 6)), 1);
    refused("slip(2, -4), at 3 of 9", x -> bit(x.slip(2, -4)), 0);
    refused("slip(0, 4), at 7/15 of 4", x -> bit(x.slip(0, 4)), 0);
    taken("slip(0, 3), at 7/15 of 4", x -> bit(x.slip(0, 3)), 1);
    refused("slip(0, -1), at 7/15 of 4", x -> bit(x.slip(0, -1)), 0);
    refused("slip(0, 0), true, by none", x -> bit(x.slip(0, 0)), 1);
    dueRefused(NEW, "slip(0, 0)", x -> bit(x.slip(0, 0)), 0);
  }

  private static void wants() {
    sentence("WANTED: false, and nothing happens, without these (DOORS, 0 and above; unlike)");
    for (int set : NO_SETS) {
      refused("want(" + set + ", 0)", x -> bit(x.want(set, 0)), 0);
      refused("want(0, " + set + ")", x -> bit(x.want(0, set)), 0);
    }
    refused("want(1, 1)", x -> bit(x.want(1, 1)), 0);
    refused("want(127, 64)", x -> bit(x.want(127, 64)), 0);
    taken("want(127, 0)", x -> bit(x.want(127, 0)), 1);
    taken("want(0, 127)", x -> bit(x.want(0, 127)), 1);
    taken("want(0, 0)", x -> bit(x.want(0, 0)), 1);
    dueRefused(NEW, "want(1, 0)", x -> bit(x.want(1, 0)), 0);
    dueRefused(NEW, "want(0, 0), true", x -> bit(x.want(0, 0)), 1);
  }

  private static void seens() {
    sentence("SEEN: false, and nothing happens, without these");
    for (int d : NO_DOORS) {
      refused("seen(" + d + ", 0)", x -> bit(x.seen(d, 0)), 0);
    }
    for (int teeth : new int[] {10000, -10000, MANY, FEW}) {
      refused("seen(1, " + teeth + ")", x -> bit(x.seen(1, teeth)), 0);
      refused("seen(0, " + teeth + ")", x -> bit(x.seen(0, teeth)), 0);
    }
    taken("seen(1, 9999)", x -> bit(x.seen(1, 9999)), 1);
    taken("seen(0, -9999)", x -> bit(x.seen(0, -9999)), 1);
    dueRefused(NEW, "seen(0, 0)", x -> bit(x.seen(0, 0)), 0);
    dueRefused(NEW, "seen(NONE, 0), true", x -> bit(x.seen(NONE, 0)), 1);
  }

  private static void comings() {
    sentence("A COMING: -2, and nothing happens, without these, or if there are 40");
    for (int d : NO_DOORS) {
      refused("coming(" + d + ")", x -> x.coming(d), -2);
    }
    dueRefused(FULL, "coming(0)", x -> x.coming(0), -2);
    dueRefused(FULL, "coming(2)", x -> x.coming(2), -2);
    dueTaken(FULL, "coming(NONE)", x -> x.coming(NONE), 0);
    dueRefused(NEW, "coming(0)", x -> x.coming(0), -2);
    dueRefused(NEW, "coming(NONE)", x -> x.coming(NONE), 0);
  }

  private static void days() {
    sentence("A DAY: NONE, and nothing happens, without that RULE, or a STREET");
    for (int r : NO_RULES) {
      refused("day(" + r + ")", x -> x.day(r), NONE);
    }
    dueRefused(FULL, "day(6)", x -> x.day(6), NONE);
    dueTaken(FULL, "day(5)", x -> x.day(5), 31);
    dueRefused(RULED, "day(0)", x -> x.day(0), NONE);
    dueRefused(NEW, "day(0)", x -> x.day(0), NONE);
  }

  private static void seeds() {
    sentence("x: NONE, and nothing happens, below 0");
    refused("seed(-1)", x -> x.seed(-1), NONE);
    refused("seed(FEW)", x -> x.seed(FEW), NONE);
    taken("seed(0)", x -> x.seed(0), 4711);
    taken("seed(MANY)", x -> x.seed(MANY), 4711);
    dueRefused(NEW, "seed(-1)", x -> x.seed(-1), NONE);
  }

  private static void images() {
    sentence("An IMAGE is made: NONE without it");
    for (int k : new int[] {-1, 4, 32, MANY, FEW}) {
      refused("image(" + k + ")", x -> x.image(k), NONE);
    }
    taken("image(3)", x -> x.image(3), 90);
    sentence("All is as in an IMAGE: NONE, and nothing happens, if it was never made, or without it");
    for (int k : new int[] {1, 3, -1, 4, 32, MANY, FEW}) {
      refused("back(" + k + ")", x -> x.back(k), NONE);
    }
    dueRefused(NEW, "back(0)", x -> x.back(0), NONE);
  }

  private static void asking() {
    sentence("nothing happens (what only asks)");
    refused("can(5, 1)", x -> x.can(5, 1), 2);
    refused("can(1, 60)", x -> x.can(1, 60), -10);
    refused("reach(1, false)", x -> x.reach(1, false), 53);
    refused("reach(1, true)", x -> x.reach(1, true), -7);
    refused("planned(127, 0)", x -> x.planned(127, 0), 2);
    refused("row(127, 0, 1)", x -> x.row(127, 0, 1), 5103);
    refused("cut(0, 1)", x -> x.cut(0, 1), 1);
    refused("cut(3, 4)", x -> x.cut(3, 4), 6);
    refused("freed(3)", x -> x.freed(3), 2);
    refused("slipped(2)", x -> x.slipped(2), 2);
    for (int r = 0; r < 2; r++) {
      int rule = r;
      for (int w = 0; w < 3; w++) {
        int what = w;
        long would = rich().would(rule, what);
        refused("would(" + r + ", " + w + ")", x -> x.would(rule, what), would);
        long drawn = rich().drawn(rule, 20, 60, what);
        refused("drawn(" + r + ", 20, 60, " + w + ")", x -> x.drawn(rule, 20, 60, what), drawn);
      }
      long worn = rich().worn(rule, 6, 0);
      refused("worn(" + r + ", 6, 0)", x -> x.worn(rule, 6, 0), worn);
    }
    refused("count(3)", x -> x.count(3), 90);
    refused("door(0, 3)", x -> x.door(0, 3), 0);
    refused("place(0, 0)", x -> x.place(0, 0), 7);
    refused("join(3, 1)", x -> x.join(3, 1), 6);
    refused("ratio(1, 0, 1)", x -> x.ratio(1, 0, 1), 15);
  }

  private static void askingForNone() {
    sentence("NONE without these (what only asks)");
    for (int bad : new int[] {-1, 7, MANY, FEW}) {
      refused("door(" + bad + ", 0)", x -> x.door(bad, 0), NONE);
      refused("place(" + bad + ", 0)", x -> x.place(bad, 0), NO_FRACTION);
      refused("join(" + bad + ", 0)", x -> x.join(bad, 0), NONE);
      refused("ratio(0, " + bad + ", 0)", x -> x.ratio(0, bad, 0), NO_FRACTION);
      refused("can(" + bad + ", 1)", x -> x.can(bad, 1), NONE);
      refused("reach(" + bad + ", true)", x -> x.reach(bad, true), -100);
      refused("cut(0, " + bad + ")", x -> x.cut(0, bad), NONE);
      refused("freed(" + bad + ")", x -> x.freed(bad), NONE);
      refused("slipped(" + bad + ")", x -> x.slipped(bad), NONE);
      refused("would(" + bad + ", 0)", x -> x.would(bad, 0), NONE);
      refused("worn(0, " + bad + ", 0)", x -> x.worn(0, bad, 0), NONE);
      refused("drawn(" + bad + ", 1, 1, 0)", x -> x.drawn(bad, 1, 1, 0), NONE);
      refused("drawn(0, 1, 1, " + bad + ")", x -> x.drawn(0, 1, 1, bad), NONE);
    }
    for (int set : NO_SETS) {
      refused("planned(" + set + ", 0)", x -> x.planned(set, 0), NONE);
      refused("planned(0, " + set + ")", x -> x.planned(0, set), NONE);
      refused("row(" + set + ", 0, 0)", x -> x.row(set, 0, 0), NONE);
      refused("row(0, " + set + ", 0)", x -> x.row(0, set, 0), NONE);
    }
    refused("row(127, 0, -1)", x -> x.row(127, 0, -1), NONE);
    for (int n : new int[] {-1, 0, 61, MANY, FEW}) {
      refused("drawn(0, 1, " + n + ", 0)", x -> x.drawn(0, 1, n, 0), NONE);
    }
    for (int m : new int[] {-1, 0, 21, MANY, FEW}) {
      refused("drawn(0, " + m + ", 1, 0)", x -> x.drawn(0, m, 1, 0), NONE);
    }
  }
}
