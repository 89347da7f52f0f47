import java.math.BigInteger;
import java.util.ArrayDeque;
import java.util.ArrayList;
import java.util.Arrays;
import java.util.HashMap;
import java.util.List;
import java.util.Map;

/** The document told once more, slowly and with the whole library, to hold the class against. */
final class Model {
  static final class Frac {
    final BigInteger up;
    final BigInteger down;

    Frac(BigInteger up, BigInteger down) {
      BigInteger g = up.gcd(down);
      if (down.signum() < 0) {
        g = g.negate();
      }
      this.up = up.divide(g);
      this.down = down.divide(g);
    }

    static Frac of(long up, long down) {
      return new Frac(BigInteger.valueOf(up), BigInteger.valueOf(down));
    }

    Frac plus(Frac o) {
      return new Frac(up.multiply(o.down).add(o.up.multiply(down)), down.multiply(o.down));
    }

    Frac times(Frac o) {
      return new Frac(up.multiply(o.up), down.multiply(o.down));
    }

    Frac abs() {
      return new Frac(up.abs(), down);
    }

    int compare(Frac o) {
      return up.multiply(o.down).compareTo(o.up.multiply(down));
    }

    long floor() {
      BigInteger[] q = up.divideAndRemainder(down);
      return (q[1].signum() < 0 ? q[0].subtract(BigInteger.ONE) : q[0]).longValueExact();
    }

    long part(int part) {
      return (part == 0 ? up : down).longValueExact();
    }

    @Override
    public boolean equals(Object o) {
      return o instanceof Frac f && f.up.equals(up) && f.down.equals(down);
    }

    @Override
    public int hashCode() {
      return up.hashCode() * 31 + down.hashCode();
    }
  }

  static final class Fault extends RuntimeException {
    private static final long serialVersionUID = 1L;
    final int fault;

    Fault(int place, int kind) {
      this.fault = 1 + 8 * place + kind;
    }
  }

  record Join(int one, int other, int kind) {}

  static final class State {
    List<int[]> doors = new ArrayList<>();
    List<Join> joins = new ArrayList<>();
    int fixed;
    List<Frac> places = new ArrayList<>();
    int open;
    int shut;
    Map<Integer, Integer> seen = new HashMap<>();
    List<Integer> comings = new ArrayList<>();
    int x;

    State copy() {
      State s = new State();
      s.doors = new ArrayList<>(doors);
      s.joins = new ArrayList<>(joins);
      s.fixed = fixed;
      s.places = new ArrayList<>(places);
      s.open = open;
      s.shut = shut;
      s.seen = new HashMap<>(seen);
      s.comings = new ArrayList<>(comings);
      s.x = x;
      return s;
    }
  }

  /** A node of a rule: a number, word, sign with two parts, or not with one. */
  record Node(String op, long number, Node left, Node right) {}

  record Clause(Node sum, Node test) {}

  State now = new State();
  final StringBuilder tape = new StringBuilder();
  final List<List<Clause>> rules = new ArrayList<>();
  final State[] images = new State[4];

  // ---- the texts

  String text;
  int at;
  int values;

  void blanks() {
    while (at < text.length() && text.charAt(at) == ' ') {
      at++;
    }
  }

  char sign() {
    blanks();
    return at < text.length() ? text.charAt(at) : 0xFFFF;
  }

  String word() {
    blanks();
    int e = at;
    while (e < text.length() && text.charAt(e) >= 'a' && text.charAt(e) <= 'z') {
      e++;
    }
    return text.substring(at, e);
  }

  boolean isDigit(char c) {
    return c >= '0' && c <= '9';
  }

  int number() {
    if (!isDigit(sign())) {
      throw new Fault(at, 0);
    }
    int start = at;
    while (at < text.length() && isDigit(text.charAt(at))) {
      at++;
    }
    if (at - start > 5) {
      throw new Fault(start, 1);
    }
    return Integer.parseInt(text.substring(start, at));
  }

  int number(int least, int most, int not) {
    blanks();
    int start = at;
    int n = number();
    if (n < least || n > most || n == not) {
      throw new Fault(start, 1);
    }
    return n;
  }

  boolean more() {
    if (sign() == ';') {
      at++;
      return true;
    }
    if (at < text.length()) {
      throw new Fault(at, 0);
    }
    return false;
  }

  State readStreet() {
    State s = new State();
    int axles = 0;
    int clauses = 0;
    do {
      String w = word();
      int kind = List.of("mesh", "belt", "axle", "door", "fixed").indexOf(w);
      if (kind < 0) {
        throw new Fault(at, 0);
      }
      clauses++;
      if (clauses > 32 || kind == 3 && s.doors.size() == 12 || kind < 3 && s.joins.size() == 16
          || kind == 2 && axles == 3) {
        throw new Fault(at, 4);
      }
      at += w.length();
      if (kind == 3) {
        int teeth = number(4, 60, -1);
        s.doors.add(new int[] {teeth, number(0, teeth, -1)});
        s.places.add(Frac.of(0, 1));
      } else if (kind == 4) {
        s.fixed |= 1 << number(0, s.doors.size() - 1, -1);
      } else {
        int one = number(0, s.doors.size() - 1, -1);
        s.joins.add(new Join(one, number(0, s.doors.size() - 1, one), kind));
        axles += kind == 2 ? 1 : 0;
      }
    } while (more());
    return s;
  }

  List<Clause> readRule() {
    List<Clause> rule = new ArrayList<>();
    values = 0;
    do {
      if (!word().equals("push")) {
        throw new Fault(at, 0);
      }
      if (rule.size() == 12) {
        throw new Fault(at, 4);
      }
      at += 4;
      Node sum = sum();
      Node test = null;
      if (word().equals("if")) {
        at += 2;
        test = test(0);
      }
      rule.add(new Clause(sum, test));
    } while (more());
    return rule;
  }

  Node test(int depth) {
    Node n = part(depth);
    while (word().equals("or")) {
      at += 2;
      n = new Node("or", 0, n, part(depth));
    }
    return n;
  }

  Node part(int depth) {
    Node n = fact(depth);
    while (word().equals("and")) {
      at += 3;
      n = new Node("and", 0, n, fact(depth));
    }
    return n;
  }

  Node fact(int depth) {
    boolean isNot = word().equals("not");
    if ((sign() == '[' || isNot) && depth == 10) {
      throw new Fault(at, 2);
    }
    if (isNot) {
      at += 3;
      return new Node("not", 0, fact(depth + 1), null);
    }
    if (sign() == '[') {
      at++;
      Node n = test(depth + 1);
      if (sign() != ']') {
        throw new Fault(at, 0);
      }
      at++;
      return n;
    }
    Node left = sum();
    String s = "" + sign();
    if (!"<=>".contains(s)) {
      throw new Fault(at, 0);
    }
    value(at);
    at++;
    if (!s.equals("=") && at < text.length() && text.charAt(at) == '=') {
      at++;
      s += "=";
    }
    return new Node(s, 0, left, sum());
  }

  Node sum() {
    Node n = term();
    while (sign() == '+' || sign() == '-') {
      String s = "" + sign();
      at++;
      n = new Node(s, 0, n, term());
    }
    return n;
  }

  Node term() {
    Node n = value();
    while (sign() == '*' || sign() == '/') {
      String s = "" + sign();
      at++;
      n = new Node(s, 0, n, value());
    }
    return n;
  }

  Node value() {
    blanks();
    int start = at;
    Node n;
    if (isDigit(sign())) {
      n = new Node("number", number(), null, null);
    } else {
      String w = word();
      if (!List.of("door", "teeth", "span", "place", "open", "opens", "joins", "coming").contains(w)) {
        throw new Fault(at, 0);
      }
      at += w.length();
      n = new Node(w, 0, null, null);
    }
    value(start);
    return n;
  }

  void value(int where) {
    values++;
    if (values > 60) {
      throw new Fault(where, 3);
    }
  }

  // ---- the street

  boolean isDoor(int d) {
    return d >= 0 && d < now.doors.size();
  }

  boolean isSet(int s) {
    return s >= 0 && s < 1 << now.doors.size();
  }

  static Frac factor(State s, Join j, boolean isForward) {
    if (j.kind == 0) {
      return Frac.of(-1, 1);
    }
    if (j.kind == 1) {
      return Frac.of(1, 1);
    }
    int a = s.doors.get(j.one)[0];
    int b = s.doors.get(j.other)[0];
    return isForward ? Frac.of(b, a) : Frac.of(a, b);
  }

  /** The ratios of a door to all joined with it, null for others; no array at all if locked. */
  static Frac[] ratios(State s, int door, int without, boolean[] isLocked) {
    Frac[] r = new Frac[s.doors.size()];
    r[door] = Frac.of(1, 1);
    ArrayDeque<Integer> todo = new ArrayDeque<>();
    todo.add(door);
    isLocked[0] = false;
    while (!todo.isEmpty()) {
      int d = todo.remove();
      for (int i = 0; i < s.joins.size(); i++) {
        Join j = s.joins.get(i);
        if ((without >> i & 1) == 1 || j.one != d && j.other != d) {
          continue;
        }
        int to = j.one == d ? j.other : j.one;
        Frac f = r[d].times(factor(s, j, j.one == d));
        if (r[to] == null) {
          r[to] = f;
          todo.add(to);
        } else if (!r[to].equals(f)) {
          isLocked[0] = true;
        }
      }
    }
    return r;
  }

  boolean locked(int door) {
    boolean[] l = new boolean[1];
    ratios(now, door, 0, l);
    return l[0];
  }

  int set(int door) {
    Frac[] r = ratios(now, door, 0, new boolean[1]);
    int set = 0;
    for (int d = 0; d < r.length; d++) {
      set |= r[d] != null ? 1 << d : 0;
    }
    return set;
  }

  boolean openAt(int door, Frac place) {
    int[] d = now.doors.get(door);
    if (d[1] > 0) {
      return place.times(Frac.of(2, 1)).compare(Frac.of(d[1], 1)) >= 0;
    }
    long turns = place.times(Frac.of(1, d[0])).floor();
    Frac over = place.plus(Frac.of(-turns * d[0], 1));
    return over.times(Frac.of(2, 1)).compare(Frac.of(d[0], 1)) < 0;
  }

  int openSet(List<Frac> places) {
    int open = 0;
    for (int d = 0; d < places.size(); d++) {
      open |= openAt(d, places.get(d)) ? 1 << d : 0;
    }
    return open;
  }

  int jam(List<Frac> places) {
    for (int d = 0; d < places.size(); d++) {
      int span = now.doors.get(d)[1];
      Frac p = places.get(d);
      if (span > 0 && (p.up.signum() < 0 || p.compare(Frac.of(span, 1)) > 0)) {
        return d;
      }
    }
    return -1;
  }

  List<Frac> turned(List<Frac> places, Frac[] ratios, int n) {
    List<Frac> next = new ArrayList<>(places);
    for (int d = 0; d < ratios.length; d++) {
      if (ratios[d] != null) {
        next.set(d, places.get(d).plus(ratios[d].times(Frac.of(n, 1))));
      }
    }
    return next;
  }

  // ---- the face

  int feed(int a, int b, int c, int d, int e) {
    if (tape.length() + 20 > 400) {
      return -1;
    }
    for (int n : new int[] {a, b, c, d, e}) {
      for (int i = 3; i >= 0; i--) {
        tape.append((char) (n >> 8 * i & 255));
      }
    }
    return tape.length();
  }

  int end(int n) {
    if (n < 0 || n > tape.length()) {
      return -1;
    }
    tape.setLength(n);
    return n;
  }

  int street() {
    text = tape.toString();
    at = 0;
    tape.setLength(0);
    try {
      State s = readStreet();
      s.x = now.x;
      now = s;
      return s.doors.size();
    } catch (Fault f) {
      return -2 - f.fault;
    }
  }

  int rule() {
    if (rules.size() == 6) {
      return -1;
    }
    text = tape.toString();
    at = 0;
    tape.setLength(0);
    try {
      rules.add(readRule());
      return rules.size() - 1;
    } catch (Fault f) {
      return -2 - f.fault;
    }
  }

  int door(int door, int what) {
    if (!isDoor(door) || what < 0 || what > 5) {
      return -1;
    }
    return switch (what) {
      case 0, 1 -> now.doors.get(door)[what];
      case 2 -> now.fixed >> door & 1;
      case 3 -> openAt(door, now.places.get(door)) ? 1 : 0;
      case 4 -> locked(door) ? 1 : 0;
      default -> Integer.numberOfTrailingZeros(set(door));
    };
  }

  long place(int door, int part) {
    if (!isDoor(door) || part < 0 || part > 1) {
      return -1000000000000L;
    }
    return now.places.get(door).part(part);
  }

  int join(int join, int what) {
    if (join < 0 || join >= now.joins.size() || what < 0 || what > 2) {
      return -1;
    }
    Join j = now.joins.get(join);
    return what == 0 ? j.one : what == 1 ? j.other : j.kind;
  }

  long ratio(int one, int other, int part) {
    if (!isDoor(one) || !isDoor(other) || part < 0 || part > 1) {
      return -1000000000000L;
    }
    boolean[] locked = new boolean[1];
    Frac r = ratios(now, one, 0, locked)[other];
    return r == null ? part : locked[0] ? -1000000000000L : r.part(part);
  }

  int can(int door, int n) {
    return pushed(door, n, null);
  }

  int push(int door, int n) {
    return pushed(door, n, new Frac[0]);
  }

  /** A push; nothing happens without wear, else what turned is added to it if it is long enough. */
  int pushed(int door, int n, Frac[] wear) {
    if (!isDoor(door) || n == 0 || n < -60 || n > 60) {
      return -1;
    }
    if ((now.fixed >> door & 1) == 1) {
      return -2;
    }
    boolean[] locked = new boolean[1];
    Frac[] r = ratios(now, door, 0, locked);
    if (locked[0]) {
      return -3;
    }
    List<Frac> next = turned(now.places, r, n);
    if (jam(next) >= 0) {
      return -10 - jam(next);
    }
    int number = 0;
    for (int d = 0; d < r.length; d++) {
      number += r[d] != null ? 1 : 0;
      if (r[d] != null && wear != null && d < wear.length) {
        wear[d] = wear[d].plus(r[d].times(Frac.of(n, 1)).abs());
      }
    }
    if (wear != null) {
      now.places = next;
    }
    return number;
  }

  int reach(int door, boolean isBack) {
    if (!isDoor(door)) {
      return -100;
    }
    for (int n = 60; n > 0; n--) {
      if (can(door, isBack ? -n : n) > 0) {
        return isBack ? -n : n;
      }
    }
    return 0;
  }

  boolean slip(int door, int n) {
    if (!isDoor(door) || n < -60 || n > 60) {
      return false;
    }
    List<Frac> next = new ArrayList<>(now.places);
    next.set(door, next.get(door).plus(Frac.of(n, 1)));
    if (jam(next) >= 0) {
      return false;
    }
    now.places = next;
    return true;
  }

  boolean want(int open, int shut) {
    if (!isSet(open) || !isSet(shut) || (open & shut) != 0) {
      return false;
    }
    now.open = open;
    now.shut = shut;
    return true;
  }

  boolean asWanted(List<Frac> places, int set) {
    int open = openSet(places) & set;
    return (now.open & set & ~open) == 0 && (now.shut & open) == 0;
  }

  /** The row of a set; null with flag 0: none is needed, -2 or -3. */
  List<Integer> plan(int set, int touched, int watched, int[] flag) {
    flag[0] = 0;
    if (asWanted(now.places, set)) {
      return new ArrayList<>();
    }
    List<List<Frac>> states = new ArrayList<>();
    Map<List<Frac>, List<Integer>> ways = new HashMap<>();
    List<Integer> pushers = new ArrayList<>();
    List<Frac[]> ratios = new ArrayList<>();
    for (int d = 0; d < now.doors.size(); d++) {
      if (((touched & set & ~now.fixed) >> d & 1) == 1 && !locked(d)) {
        pushers.add(d);
        ratios.add(ratios(now, d, 0, new boolean[1]));
      }
    }
    states.add(now.places);
    ways.put(now.places, new ArrayList<>());
    for (int i = 0; i < states.size(); i++) {
      for (int p = 0; p < pushers.size(); p++) {
        for (int n = -60; n <= 60; n++) {
          List<Frac> next = turned(states.get(i), ratios.get(p), n);
          if (n == 0 || ways.containsKey(next) || jam(next) >= 0
              || (openSet(next) & watched & set) != 0) {
            continue;
          }
          if (states.size() == 2000) {
            flag[0] = -3;
            return null;
          }
          states.add(next);
          List<Integer> way = new ArrayList<>(ways.get(states.get(i)));
          way.add(1000 * pushers.get(p) + 100 + n);
          ways.put(next, way);
          if (asWanted(next, set)) {
            return way;
          }
        }
      }
    }
    flag[0] = -2;
    return null;
  }

  int row(int touched, int watched, int k, boolean isCount) {
    if (now.doors.isEmpty() || !isSet(touched) || !isSet(watched) || k < 0) {
      return -1;
    }
    List<Integer> row = new ArrayList<>();
    int worst = 0;
    for (int d = 0; d < now.doors.size(); d++) {
      int set = set(d);
      if (Integer.numberOfTrailingZeros(set) != d) {
        continue;
      }
      int[] flag = new int[1];
      List<Integer> way = plan(set, touched, watched, flag);
      if (way == null) {
        worst = flag[0] == -2 || worst == -2 ? -2 : -3;
      } else {
        row.addAll(way);
      }
    }
    if (worst != 0) {
      return worst;
    }
    if (isCount) {
      return row.size();
    }
    return k < row.size() ? row.get(k) : -2;
  }

  int planned(int touched, int watched) {
    return row(touched, watched, 0, true);
  }

  int row(int touched, int watched, int k) {
    return row(touched, watched, k, false);
  }

  int cut(int one, int other) {
    if (!isDoor(one) || !isDoor(other) || one == other || (set(one) >> other & 1) == 0) {
      return -1;
    }
    for (int size = 1; size <= 3; size++) {
      for (int set = 0; set < 1 << now.joins.size(); set++) {
        if (Integer.bitCount(set) == size
            && ratios(now, one, set, new boolean[1])[other] == null) {
          return set;
        }
      }
    }
    return -2;
  }

  int freed(int door) {
    if (!isDoor(door) || !locked(door)) {
      return -1;
    }
    for (int size = 1; size <= 3; size++) {
      for (int set = 0; set < 1 << now.joins.size(); set++) {
        boolean[] locked = new boolean[1];
        if (Integer.bitCount(set) == size) {
          ratios(now, door, set, locked);
          if (!locked[0]) {
            return set;
          }
        }
      }
    }
    return -2;
  }

  boolean seen(int door, int teeth) {
    if (door == -1) {
      now.seen.clear();
      return true;
    }
    if (!isDoor(door) || teeth < -9999 || teeth > 9999) {
      return false;
    }
    now.seen.put(door, teeth);
    return true;
  }

  boolean asSeen(int slippedDoor, int n) {
    for (Map.Entry<Integer, Integer> e : now.seen.entrySet()) {
      long whole = now.places.get(e.getKey()).floor() + (e.getKey() == slippedDoor ? n : 0);
      if (whole != e.getValue()) {
        return false;
      }
    }
    return true;
  }

  int slipped(int what) {
    if (now.doors.isEmpty() || what < 0 || what > 2) {
      return -1;
    }
    int[] found = {0, -2, 0};
    if (!asSeen(-1, 0)) {
      for (int d = 0; d < now.doors.size(); d++) {
        for (int n = -9; n <= 9; n++) {
          if (n != 0 && asSeen(d, n)) {
            found[0]++;
            if (found[0] == 1) {
              found[1] = d;
              found[2] = n;
            }
          }
        }
      }
    }
    return found[what];
  }

  int coming(int door) {
    if (door == -1) {
      now.comings.clear();
      return 0;
    }
    if (!isDoor(door) || now.comings.size() == 40) {
      return -2;
    }
    now.comings.add(door);
    return now.comings.size();
  }

  long value(Node n, int door, int ahead) {
    return switch (n.op) {
      case "number" -> n.number;
      case "door" -> door;
      case "teeth" -> now.doors.get(door)[0];
      case "span" -> now.doors.get(door)[1];
      case "place" -> now.places.get(door).floor();
      case "open" -> openSet(now.places) >> door & 1;
      case "opens" -> Integer.bitCount(openSet(now.places));
      case "joins" -> now.joins.stream().filter(j -> j.one == door || j.other == door).count();
      case "coming" -> ahead;
      default -> reckoned(n.op, value(n.left, door, ahead), value(n.right, door, ahead));
    };
  }

  long reckoned(String op, long a, long b) {
    return switch (op) {
      case "+" -> a + b;
      case "-" -> a - b;
      case "*" -> a * b;
      default -> b == 0 ? 0 : a / b;
    };
  }

  boolean holds(Node n, int door, int ahead) {
    switch (n.op) {
      case "or":
        return holds(n.left, door, ahead) || holds(n.right, door, ahead);
      case "and":
        return holds(n.left, door, ahead) && holds(n.right, door, ahead);
      case "not":
        return !holds(n.left, door, ahead);
      default:
        int c = Long.compare(value(n.left, door, ahead), value(n.right, door, ahead));
        return switch (n.op) {
          case "<" -> c < 0;
          case "<=" -> c <= 0;
          case "=" -> c == 0;
          case ">=" -> c >= 0;
          default -> c > 0;
        };
    }
  }

  /** Passes, pushed, refused; the turns stay. */
  int[] spend(int rule, List<Integer> comings, Frac[] wear) {
    int[] sums = new int[3];
    for (int i = 0; i < comings.size(); i++) {
      int d = comings.get(i);
      if (!openAt(d, now.places.get(d))) {
        for (Clause c : rules.get(rule)) {
          if (c.test == null || holds(c.test, d, i)) {
            int n = (int) Math.max(-60, Math.min(60, value(c.sum, d, i)));
            if (n != 0) {
              sums[pushed(d, n, wear) > 0 ? 1 : 2]++;
            }
            break;
          }
        }
      }
      sums[0] += openAt(d, now.places.get(d)) ? 1 : 0;
    }
    return sums;
  }

  Frac[] noWear() {
    Frac[] wear = new Frac[now.doors.size()];
    Arrays.fill(wear, Frac.of(0, 1));
    return wear;
  }

  boolean isDay(int rule) {
    return rule >= 0 && rule < rules.size() && !now.doors.isEmpty();
  }

  int day(int rule) {
    return isDay(rule) ? spend(rule, now.comings, noWear())[0] : -1;
  }

  int would(int rule, int what) {
    if (!isDay(rule) || what < 0 || what > 3) {
      return -1;
    }
    List<Frac> kept = now.places;
    int[] sums = spend(rule, now.comings, noWear());
    int open = openSet(now.places);
    now.places = kept;
    return what == 3 ? open : sums[what];
  }

  long worn(int rule, int door, int part) {
    if (!isDay(rule) || !isDoor(door) || part < 0 || part > 1) {
      return -1;
    }
    List<Frac> kept = now.places;
    Frac[] wear = noWear();
    spend(rule, now.comings, wear);
    now.places = kept;
    return wear[door].part(part);
  }

  int seed(int x) {
    if (x < 0) {
      return -1;
    }
    int was = now.x;
    now.x = x;
    return was;
  }

  int drawn(int rule, int m, int n, int what) {
    if (!isDay(rule) || m < 1 || m > 20 || n < 1 || n > 60 || what < 0 || what > 2) {
      return -1;
    }
    List<Frac> kept = now.places;
    BigInteger x = BigInteger.valueOf(now.x);
    int sum = 0;
    for (int i = 0; i < m; i++) {
      List<Integer> comings = new ArrayList<>();
      for (int j = 0; j < n; j++) {
        x = x.multiply(BigInteger.valueOf(1103515245)).add(BigInteger.valueOf(12345))
            .mod(BigInteger.valueOf(2147483648L));
        comings.add(x.intValue() / 65536 % now.doors.size());
      }
      sum += spend(rule, comings, noWear())[what];
      now.places = kept;
    }
    return sum;
  }

  int count(int what) {
    int locked = 0;
    int sets = 0;
    for (int d = 0; d < now.doors.size(); d++) {
      locked |= locked(d) ? 1 << d : 0;
      sets += Integer.numberOfTrailingZeros(set(d)) == d ? 1 : 0;
    }
    int seen = 0;
    for (int d : now.seen.keySet()) {
      seen |= 1 << d;
    }
    int[] all = {now.doors.size(), now.joins.size(), rules.size(), openSet(now.places), locked, sets,
        now.comings.size(), seen, now.x, tape.length(), now.open, now.shut};
    return what >= 0 && what < all.length ? all[what] : -1;
  }

  int image(int k) {
    if (k < 0 || k > 3) {
      return -1;
    }
    images[k] = now.copy();
    return openSet(now.places);
  }

  int back(int k) {
    if (k < 0 || k > 3 || images[k] == null) {
      return -1;
    }
    now = images[k].copy();
    return openSet(now.places);
  }
}
