import java.util.ArrayList;
import java.util.Arrays;
import java.util.List;
import java.util.function.Supplier;

/** What the tests share: texts put on the tape, answers held against those due, and twins. */
abstract class Bench {
  static final long NO_FRACTION = -1000000000000L;
  static final int NONE = DoorsOnCogs.NONE;
  static final int MANY = Integer.MAX_VALUE;
  static final int FEW = Integer.MIN_VALUE;
  private static final int MOST_CALLS = 512;
  private static final int SETUP_CALLS = 120;

  private static String about = "";
  private static int asked = 0;
  private static int wrong = 0;
  private static int calls = 0;

  interface Call {
    long on(DoorsOnCogs x);
  }

  /** Names the sentence of the document that the next answers are held against. */
  static void sentence(String words) {
    about = words;
  }

  static void due(String call, long got, long want) {
    asked++;
    if (got != want) {
      wrong++;
      System.out.println("\"" + about + "\": " + call + " answered " + got + ", due is " + want);
    }
  }

  static void due(String call, boolean got, boolean want) {
    due(call, bit(got), bit(want));
  }

  static void due(int promise, String call, long got, long want) {
    about = "promise " + promise;
    due(call, got, want);
  }

  static void due(int promise, String call, boolean got, boolean want) {
    due(promise, call, bit(got), bit(want));
  }

  static long bit(boolean b) {
    return b ? 1 : 0;
  }

  static void finish() {
    System.out.println(asked + " answers looked at, " + wrong + " not as due");
    if (wrong != 0) {
      System.exit(1);
    }
  }

  // ---- texts

  /** Puts a text on the tape in place of what is there. */
  static void write(DoorsOnCogs x, String text) {
    x.end(0);
    for (int i = 0; i < text.length(); i += 20) {
      int[] five = new int[5];
      for (int j = 0; j < 20; j++) {
        five[j / 4] = five[j / 4] << 8 | (i + j < text.length() ? text.charAt(i + j) : 0);
      }
      x.feed(five[0], five[1], five[2], five[3], five[4]);
    }
    x.end(text.length());
  }

  static int street(DoorsOnCogs x, String text) {
    write(x, text);
    return x.street();
  }

  static int rule(DoorsOnCogs x, String text) {
    write(x, text);
    return x.rule();
  }

  static DoorsOnCogs told(String street, String... rules) {
    DoorsOnCogs x = new DoorsOnCogs();
    street(x, street);
    for (String rule : rules) {
      rule(x, rule);
    }
    return x;
  }

  static void dueStreet(String text, int want) {
    due("street of '" + text + "'", street(new DoorsOnCogs(), text), want);
  }

  static void dueRule(String text, int want) {
    due("rule of '" + text + "'", rule(new DoorsOnCogs(), text), want);
  }

  /** What street and rule answer for a fault of a kind at a place. */
  static int fault(int place, int kind) {
    return -2 - (1 + 8 * place + kind);
  }

  static void duePlace(DoorsOnCogs x, int door, long above, long below) {
    due("place(" + door + ", 0)", x.place(door, 0), above);
    due("place(" + door + ", 1)", x.place(door, 1), below);
  }

  /** How far a rule's day with one coming pushes a mill of 60 teeth that is shut at a place. */
  static long pushedBy(String rule, int place) {
    DoorsOnCogs x = told("door 60 0", rule);
    x.slip(0, place);
    x.coming(0);
    x.day(0);
    return x.place(0, 0) - place;
  }

  static void dueSum(String sum, int want) {
    due("push " + sum, pushedBy("push " + sum, 30), want);
  }

  /** Whether a test holds, at the place -1 of a mill. */
  static void dueTest(String test, boolean want) {
    due("if " + test, pushedBy("push 1 if " + test + ";push 2", -1), want ? 1 : 2);
  }

  // ---- twins

  /**
   * A call that is refused: its answer, and that nothing has changed behind it. A twin made in the
   * same way has to answer all that can be asked alike; the asking goes on to the tape and to the
   * images, so both are used up by it.
   */
  static void dueRefused(Supplier<DoorsOnCogs> made, String name, Call call, long want) {
    DoorsOnCogs x = made.get();
    due(name, call.on(x), want);
    String change = firstChange(x, made.get());
    due(name + ", and nothing changed but " + change, change.length(), 0);
  }

  /** A call that is taken: its answer, and that something has changed behind it. */
  static void dueTaken(Supplier<DoorsOnCogs> made, String name, Call call, long want) {
    DoorsOnCogs x = made.get();
    due(name, call.on(x), want);
    due(name + ", and something changed", !firstChange(x, made.get()).isEmpty(), true);
  }

  private static String firstChange(DoorsOnCogs x, DoorsOnCogs twin) {
    List<String> mine = asked(x);
    List<String> its = asked(twin);
    for (int i = 0; i < Math.max(mine.size(), its.size()); i++) {
      if (i >= mine.size() || i >= its.size()) {
        return "the number of answers";
      }
      if (!mine.get(i).equals(its.get(i))) {
        return mine.get(i) + " (was " + its.get(i) + ")";
      }
    }
    return "";
  }

  private static List<String> asked(DoorsOnCogs x) {
    List<String> answers = new ArrayList<>();
    calls = 0;
    askNow(x, answers);
    askStreet(x, answers);
    askDays(x, answers);
    askTape(x, answers);
    for (int k = 0; k < 4; k++) {
      note(answers, "back(" + k + ")", x.back(k));
      askNow(x, answers);
    }
    if (calls > MOST_CALLS - SETUP_CALLS) {
      throw new IllegalStateException("more calls than an object is used for");
    }
    return answers;
  }

  private static void note(List<String> answers, String name, long... values) {
    answers.add(name + " " + Arrays.toString(values));
    calls += values.length;
  }

  private static void askNow(DoorsOnCogs x, List<String> answers) {
    for (int what = 0; what < 12; what++) {
      note(answers, "count(" + what + ")", x.count(what));
    }
    for (int d = 0; x.place(d, 1) != NO_FRACTION; d++) {
      note(answers, "place(" + d + ")", x.place(d, 0), x.place(d, 1));
      calls++;
    }
    note(answers, "slipped", x.slipped(0), x.slipped(1), x.slipped(2));
  }

  private static void askStreet(DoorsOnCogs x, List<String> answers) {
    int doors = x.count(0);
    for (int d = 0; d < doors; d++) {
      note(answers, "door(" + d + ")", x.door(d, 0), x.door(d, 1), x.door(d, 2), x.door(d, 3),
          x.door(d, 4), x.door(d, 5));
      note(answers, "ratio(" + d + ", 0)", x.ratio(d, 0, 0), x.ratio(d, 0, 1));
      note(answers, "reach(" + d + ")", x.reach(d, false), x.reach(d, true));
    }
    int joins = x.count(1);
    for (int j = 0; j < joins; j++) {
      note(answers, "join(" + j + ")", x.join(j, 0), x.join(j, 1), x.join(j, 2));
    }
    int all = (1 << doors) - 1;
    note(answers, "planned and row", x.planned(all, 0), x.row(all, 0, 0));
  }

  private static void askDays(DoorsOnCogs x, List<String> answers) {
    int rules = x.count(2);
    for (int r = 0; r < rules; r++) {
      note(answers, "would(" + r + ")", x.would(r, 0), x.would(r, 1), x.would(r, 2), x.would(r, 3));
      note(answers, "worn(" + r + ", 0)", x.worn(r, 0, 0), x.worn(r, 0, 1));
      note(answers, "drawn(" + r + ", 3, 7, 1)", x.drawn(r, 3, 7, 1));
    }
  }

  /** What is on the tape shows in what it is as a rule, or as a street where there are six. */
  private static void askTape(DoorsOnCogs x, List<String> answers) {
    int rule = x.rule();
    note(answers, "rule() and its day", rule, x.day(rule));
    if (rule == NONE) {
      note(answers, "street()", x.street());
    }
    askNow(x, answers);
  }
}
