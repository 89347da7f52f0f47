import java.util.ArrayList;
import java.util.List;
import java.util.Random;

/** Random runs of calls on the class and on the model, which must answer alike. */
public final class ModelTest {
  private static final int MOST_WRONG = 10;

  private final Random random;
  private final DoorsOnCogs real = new DoorsOnCogs();
  private final Model model = new Model();
  private final List<String> told = new ArrayList<>();
  private final int run;
  private final boolean isPlanning;
  private int wrong;
  private int doors = 3;

  private ModelTest(int run) {
    this.run = run;
    this.random = new Random(run);
    this.isPlanning = run % 10 == 0;
  }

  public static void main(String[] args) {
    int runs = args.length > 0 ? Integer.parseInt(args[0]) : 300;
    int from = args.length > 1 ? Integer.parseInt(args[1]) : 0;
    int wrong = 0;
    for (int run = from; run < from + runs && wrong < MOST_WRONG; run++) {
      wrong += new ModelTest(run).go();
    }
    System.out.println(wrong == 0 ? "class and model answer alike" : wrong + " answers are unlike");
    if (wrong != 0) {
      System.exit(1);
    }
  }

  private int go() {
    if (run % 3 != 0 || isPlanning) {
      tell(streetText(), true);
      tell(ruleText(), false);
    }
    int calls = isPlanning ? 60 : 480;
    for (int i = told.size(); i < calls && wrong == 0; i++) {
      call();
    }
    return wrong;
  }

  private int below(int n) {
    return random.nextInt(n);
  }

  private int around(int n) {
    return below(12) == 0 ? below(3) == 0 ? random.nextInt() : below(n + 6) - 3 : below(Math.max(1, n));
  }

  private int aSet() {
    if (below(20) == 0) {
      return random.nextInt();
    }
    int all = (1 << doors) - 1;
    return below(3) == 0 ? all : random.nextInt() & all;
  }

  private void due(String call, long got, long want) {
    told.add(call + " -> " + want);
    if (got != want && wrong == 0) {
      wrong++;
      System.out.println("run " + run + ":");
      for (String s : told.subList(Math.max(0, told.size() - 40), told.size())) {
        System.out.println("  " + s);
      }
      System.out.println("  but the class answered " + got);
    }
  }

  private static long bit(boolean b) {
    return b ? 1 : 0;
  }

  private void feed(int[] n) {
    due("feed(" + n[0] + ", " + n[1] + ", " + n[2] + ", " + n[3] + ", " + n[4] + ")",
        real.feed(n[0], n[1], n[2], n[3], n[4]), model.feed(n[0], n[1], n[2], n[3], n[4]));
  }

  private void end(int n) {
    due("end(" + n + ")", real.end(n), model.end(n));
  }

  private void tell(String text, boolean isStreet) {
    end(0);
    told.add("  the text: " + text);
    for (int i = 0; i < text.length(); i += 20) {
      int[] five = new int[5];
      for (int j = 0; j < 20; j++) {
        int b = i + j < text.length() ? text.charAt(i + j) : below(256);
        five[j / 4] = five[j / 4] << 8 | b;
      }
      feed(five);
    }
    end(text.length());
    if (isStreet) {
      due("street()", real.street(), model.street());
    } else {
      due("rule()", real.rule(), model.rule());
    }
    doors = Math.max(1, model.now.doors.size());
  }

  // ---- texts

  private String blanks() {
    return " ".repeat(below(8) == 0 ? below(3) : 0);
  }

  private String mutated(String text) {
    if (below(isPlanning ? 20 : 4) != 0 || text.isEmpty()) {
      return text;
    }
    String signs = "0123456789 ;[]<>=+-*/.Xadenorst\0\377";
    StringBuilder b = new StringBuilder(text);
    int at = below(text.length() + 1);
    char sign = signs.charAt(below(signs.length()));
    switch (below(4)) {
      case 0 -> b.insert(at, sign);
      case 1 -> b.setLength(at);
      case 2 -> b.delete(at, Math.min(text.length(), at + 1 + below(4)));
      default -> b.replace(at, Math.min(text.length(), at + 1), "" + sign);
    }
    return b.toString();
  }

  private String cut(StringBuilder b) {
    String text = mutated(b.toString());
    return text.length() > 400 ? text.substring(0, 400) : text;
  }

  private String streetText() {
    StringBuilder b = new StringBuilder();
    int n = below(6) == 0 ? 1 + below(13) : 1 + below(6);
    int[] set = new int[20];
    int axles = 0;
    int span = below(3);
    for (int i = 0; i < n; i++) {
      int teeth = below(3) == 0 ? 4 + below(57) : 4 + 2 * below(6);
      b.append(i > 0 ? ";" : "").append(blanks()).append("door ").append(teeth).append(' ');
      b.append(span == 0 || below(3) == 0 ? 0 : below(teeth + 1)).append(blanks());
      set[i] = i;
    }
    int joins = below(8) == 0 ? below(18) : below(n + 2);
    boolean isTree = below(3) > 0 || isPlanning;
    for (int i = 0; i < joins && n > 1; i++) {
      int one = below(n);
      int other = below(n);
      if (isTree && set[one] == set[other]) {
        continue;
      }
      if (one == other && below(30) > 0) {
        continue;
      }
      int from = set[other];
      for (int d = 0; d < n; d++) {
        set[d] = set[d] == from ? set[one] : set[d];
      }
      int kind = below(3);
      if (kind == 2 && axles == 3 && below(10) > 0) {
        kind = below(2);
      }
      axles += kind == 2 ? 1 : 0;
      b.append(';').append(blanks()).append(kind == 0 ? "mesh" : kind == 1 ? "belt" : "axle");
      b.append(" ".repeat(below(2))).append(one).append(' ').append(other);
    }
    for (int i = below(4); i < 2; i++) {
      b.append(";fixed ").append(below(10) == 0 ? below(n + 2) : below(n));
    }
    return cut(b);
  }

  private String ruleText() {
    StringBuilder b = new StringBuilder();
    int clauses = below(15) == 0 ? 10 + below(5) : 1 + below(4);
    for (int i = 0; i < clauses; i++) {
      b.append(i > 0 ? ";" : "").append(blanks()).append("push ").append(blanks());
      sum(b);
      if (below(4) > 0) {
        b.append(" if ");
        test(b, 0);
      }
    }
    return cut(b);
  }

  private void sum(StringBuilder b) {
    String signs = "+-*/";
    int n = below(40) == 0 ? below(70) : below(3);
    value(b);
    for (int i = 0; i < n; i++) {
      b.append(blanks()).append(signs.charAt(below(4))).append(blanks());
      value(b);
    }
  }

  private void value(StringBuilder b) {
    String[] words = {"door", "teeth", "span", "place", "open", "opens", "joins", "coming"};
    if (below(2) == 0) {
      b.append(words[below(8)]);
    } else {
      b.append(below(20) == 0 ? below(200000) : below(6) == 0 ? below(100) : below(10));
    }
  }

  private void test(StringBuilder b, int depth) {
    fact(b, depth);
    for (int i = below(3); i > 1; i--) {
      b.append(below(2) == 0 ? " or " : " and ");
      fact(b, depth);
    }
  }

  private void fact(StringBuilder b, int depth) {
    int kind = below(40) == 0 ? 3 : depth < 12 ? below(6) : 4;
    if (kind == 0) {
      b.append("not ");
      fact(b, depth + 1);
    } else if (kind == 1) {
      b.append('[').append(blanks());
      test(b, depth + 1);
      b.append(']');
    } else if (kind == 3 && below(2) == 0) {
      b.append("not [ ".repeat(below(7))).append("1 > 2").append("]".repeat(below(7)));
    } else {
      String[] signs = {"<", "<=", "=", ">=", ">"};
      sum(b);
      b.append(blanks()).append(signs[below(5)]).append(blanks());
      sum(b);
    }
  }

  // ---- calls

  private void call() {
    int kind = below(isPlanning ? 60 : 34);
    int d = around(doors);
    int e = around(doors);
    int part = around(2);
    int rule = around(model.rules.size());
    switch (kind) {
      case 0, 1 -> {
        if (isPlanning || below(4) == 0) {
          tell(streetText(), true);
        }
      }
      case 2, 3 -> {
        if (below(2) == 0) {
          tell(ruleText(), false);
        }
      }
      case 4 -> {
        int w = around(6);
        due("door(" + d + ", " + w + ")", real.door(d, w), model.door(d, w));
      }
      case 5, 6 -> due("place(" + d + ", " + part + ")", real.place(d, part), model.place(d, part));
      case 7 -> {
        int j = around(model.now.joins.size());
        int w = around(3);
        due("join(" + j + ", " + w + ")", real.join(j, w), model.join(j, w));
      }
      case 8 -> due("ratio(" + d + ", " + e + ", " + part + ")", real.ratio(d, e, part),
          model.ratio(d, e, part));
      case 9, 10, 11, 12 -> {
        int n = below(3) == 0 ? below(130) - 65 : below(15) - 5;
        due("can(" + d + ", " + n + ")", real.can(d, n), model.can(d, n));
        due("push(" + d + ", " + n + ")", real.push(d, n), model.push(d, n));
      }
      case 13 -> {
        boolean b = random.nextBoolean();
        due("reach(" + d + ", " + b + ")", real.reach(d, b), model.reach(d, b));
      }
      case 14, 15 -> {
        int n = below(6) == 0 ? below(130) - 65 : below(10) - 3;
        due("slip(" + d + ", " + n + ")", bit(real.slip(d, n)), bit(model.slip(d, n)));
      }
      case 16 -> wantSome();
      case 17, 18 -> due("cut(" + d + ", " + e + ")", real.cut(d, e), model.cut(d, e));
      case 19 -> due("freed(" + d + ")", real.freed(d), model.freed(d));
      case 20, 21 -> seeSome(d);
      case 22 -> {
        int w = around(3);
        due("slipped(" + w + ")", real.slipped(w), model.slipped(w));
      }
      case 23, 24 -> {
        int c = below(30) == 0 ? -1 : d;
        due("coming(" + c + ")", real.coming(c), model.coming(c));
      }
      default -> callMore(kind, d, part, rule);
    }
  }

  private void callMore(int kind, int d, int part, int rule) {
    switch (kind) {
      case 25 -> due("day(" + rule + ")", real.day(rule), model.day(rule));
      case 26 -> {
        int w = around(4);
        due("would(" + rule + ", " + w + ")", real.would(rule, w), model.would(rule, w));
      }
      case 27 -> due("worn(" + rule + ", " + d + ", " + part + ")", real.worn(rule, d, part),
          model.worn(rule, d, part));
      case 28 -> {
        int x = random.nextInt() >>> below(20);
        due("seed(" + x + ")", real.seed(x), model.seed(x));
      }
      case 29 -> {
        int m = around(below(4) == 0 ? 23 : 4);
        int n = around(below(4) == 0 ? 63 : 10);
        int w = around(3);
        due("drawn(" + rule + ", " + m + ", " + n + ", " + w + ")", real.drawn(rule, m, n, w),
            model.drawn(rule, m, n, w));
      }
      case 30 -> {
        int w = around(12);
        due("count(" + w + ")", real.count(w), model.count(w));
      }
      case 31 -> {
        int k = around(4);
        due("image(" + k + ")", real.image(k), model.image(k));
      }
      case 32 -> {
        int k = around(4);
        due("back(" + k + ")", real.back(k), model.back(k));
        doors = Math.max(1, model.now.doors.size());
      }
      case 33 -> {
        if (below(2) == 0) {
          feed(new int[] {random.nextInt(), random.nextInt(), random.nextInt(), 0, 1});
        } else {
          end(below(2) == 0 ? 0 : around(100));
        }
      }
      default -> planSome();
    }
  }

  private void wantSome() {
    int open = aSet();
    int shut = below(10) == 0 ? aSet() : aSet() & ~open;
    if (below(4) > 0) {
      open &= 1 << below(doors) | 1 << below(doors);
      shut &= 1 << below(doors) | 1 << below(doors);
    }
    due("want(" + open + ", " + shut + ")", bit(real.want(open, shut)), bit(model.want(open, shut)));
  }

  private void planSome() {
    wantSome();
    int touched = below(3) == 0 ? aSet() : (1 << model.now.doors.size()) - 1;
    int watched = below(4) == 0 ? aSet() : 0;
    int pushes = model.planned(touched, watched);
    due("planned(" + touched + ", " + watched + ")", real.planned(touched, watched), pushes);
    int k = around(Math.max(2, pushes));
    due("row(" + touched + ", " + watched + ", " + k + ")", real.row(touched, watched, k),
        model.row(touched, watched, k));
  }

  private void seeSome(int d) {
    int teeth = around(20);
    if (d >= 0 && d < model.now.doors.size() && below(4) > 0) {
      teeth = (int) model.now.places.get(d).floor() + (below(3) == 0 ? below(25) - 12 : 0);
    }
    int door = below(10) == 0 ? -1 : d;
    due("seen(" + door + ", " + teeth + ")", bit(real.seen(door, teeth)),
        bit(model.seen(door, teeth)));
  }
}
