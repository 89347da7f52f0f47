import java.lang.reflect.Array;
import java.lang.reflect.Constructor;
import java.lang.reflect.Field;
import java.lang.reflect.Method;
import java.lang.reflect.Modifier;
import java.nio.charset.StandardCharsets;
import java.nio.file.Files;
import java.nio.file.Path;
import java.util.ArrayList;
import java.util.Arrays;
import java.util.Collections;
import java.util.IdentityHashMap;
import java.util.List;
import java.util.Map;
import java.util.Set;
import java.util.TreeMap;
import java.util.TreeSet;
import java.util.regex.Matcher;
import java.util.regex.Pattern;

/** The face, and what a look at the source can tell of the rules of LANGUAGE.md. */
public final class LanguageTest {
  private static final Path SOURCE = Path.of("src/main/java/DoorsOnCogs.java");
  private static final String FACE =
      "int feed(int,int,int,int,int); int end(int); int street(); int rule(); int door(int,int); "
          + "long place(int,int); int join(int,int); long ratio(int,int,int); int push(int,int); "
          + "int can(int,int); int reach(int,boolean); boolean slip(int,int); "
          + "boolean want(int,int); int planned(int,int); int row(int,int,int); int cut(int,int); "
          + "int freed(int); boolean seen(int,int); int slipped(int); int coming(int); "
          + "int day(int); int would(int,int); long worn(int,int,int); int seed(int); "
          + "int drawn(int,int,int,int); int count(int); int image(int); int back(int)";
  private static int wrong = 0;

  private static void hold(boolean isSo, String what) {
    if (!isSo) {
      wrong++;
      System.out.println("not so: " + what);
    }
  }

  public static void main(String[] args) throws Exception {
    String source = Files.readString(SOURCE, StandardCharsets.ISO_8859_1);
    face();
    members();
    String code = source.replaceAll("(?s)/\\*.*?\\*/", "").replaceAll("//[^\n]*", "");
    words(code);
    bodies(code);
    depths();
    room();
    System.out.println(wrong == 0 ? "the language is kept to" : wrong + " rules are not kept to");
    if (wrong != 0) {
      System.exit(1);
    }
  }

  private static void face() {
    Class<?> c = DoorsOnCogs.class;
    hold(Modifier.isPublic(c.getModifiers()) && Modifier.isFinal(c.getModifiers()), "public final");
    Set<String> methods = new TreeSet<>();
    for (Method m : c.getDeclaredMethods()) {
      if (!Modifier.isPrivate(m.getModifiers())) {
        hold(Modifier.isPublic(m.getModifiers()), "rule 1: " + m);
        StringBuilder b = new StringBuilder(m.getReturnType() + " " + m.getName() + "(");
        for (Class<?> p : m.getParameterTypes()) {
          b.append(b.charAt(b.length() - 1) == '(' ? "" : ",").append(p);
        }
        methods.add(b.append(")").toString());
      }
    }
    Set<String> due = new TreeSet<>(Arrays.asList(FACE.split("; ?")));
    hold(methods.equals(due), "the methods of the face: " + methods);
    Constructor<?>[] made = c.getDeclaredConstructors();
    hold(made.length == 1 && Modifier.isPublic(made[0].getModifiers())
        && made[0].getParameterCount() == 0, "one public constructor");
    for (Field f : c.getDeclaredFields()) {
      hold(Modifier.isPrivate(f.getModifiers()) || f.getName().equals("NONE"), "rule 1: " + f);
    }
  }

  private static void members() {
    Set<String> open = new TreeSet<>();
    for (String m : FACE.split("; ?")) {
      open.add(m.replaceAll(".* (\\w+)\\(.*", "$1"));
    }
    Class<?>[] inside = DoorsOnCogs.class.getDeclaredClasses();
    hold(inside.length <= 11, "rule 11: twelve classes");
    for (Class<?> c : inside) {
      hold(Modifier.isStatic(c.getModifiers()), "rule 2: " + c + " is static");
      int fields = 0;
      for (Field f : c.getDeclaredFields()) {
        boolean isStatic = Modifier.isStatic(f.getModifiers());
        fields += isStatic ? 0 : 1;
        hold(!isStatic || Modifier.isFinal(f.getModifiers()), "rule 5: " + f);
      }
      hold(fields <= 20, "rule 11: fields of " + c);
      for (Method m : c.getDeclaredMethods()) {
        hold(!open.contains(m.getName()), "rule 1: " + m);
        hold(m.getParameterCount() <= 7, "rule 11: " + m);
      }
    }
  }

  private static void words(String code) {
    for (String word : "throw try catch synchronized assert package var float double yield volatile"
        .split(" ")) {
      hold(!Pattern.compile("\\b" + word + "\\b").matcher(code).find(), "no " + word);
    }
    for (String sign : new String[] {"->", "::", "\"\"\"", "Exact(", "System.out", "new int[][]"}) {
      hold(!code.contains(sign), "no " + sign);
    }
    Matcher imports = Pattern.compile("import ([\\w.]+);").matcher(code);
    while (imports.find()) {
      hold(imports.group(1).equals("java.util.Arrays"), "rule 4: " + imports.group(1));
    }
    Matcher calls = Pattern.compile("\\b(Math|Integer|Long|Arrays|System)\\.(\\w+)").matcher(code);
    Set<String> known = Set.of("abs", "max", "min", "floorDiv", "floorMod", "bitCount", "fill",
        "arraycopy");
    while (calls.find()) {
      hold(known.contains(calls.group(2)), "rule 4: " + calls.group());
    }
    for (String sign : new String[] {"\" +", "+ \""}) {
      hold(!code.contains(sign), "rule 10: no texts joined by " + sign);
    }
  }

  // The calls that each method makes, by their names alone: methods of one name count as one.
  private static final Map<String, Set<String>> CALLS = new TreeMap<>();

  private static void bodies(String code) {
    Matcher bodies = Pattern
        .compile("(?m)^( {2}| {4})(\\w[^\n]*\\)) \\{\n((?:\\1 [^\n]*|)\n)*").matcher(code);
    while (bodies.find()) {
      String head = bodies.group(2);
      String body = bodies.group().substring(bodies.group().indexOf('\n'));
      hold(body.lines().count() < 60, "rule 11: the lines of " + head);
      String name = nameBefore(head, head.indexOf('('));
      boolean isConstructor = Character.isUpperCase(name.charAt(0));
      hold(isConstructor || !body.contains("new "), "no object is made by " + head);
      Set<String> calls = CALLS.computeIfAbsent(name, k -> new TreeSet<>());
      Matcher called = Pattern.compile("\\b(\\w+)\\(").matcher(body);
      while (called.find()) {
        calls.add(called.group(1));
      }
    }
    hold(CALLS.size() > 100, "the methods are found: " + CALLS.size());
  }

  private static String nameBefore(String head, int end) {
    return head.substring(head.lastIndexOf(' ', end) + 1, end);
  }

  private static void depths() {
    for (String name : CALLS.keySet()) {
      int depth = depth(name, new ArrayList<>());
      hold(depth <= 8, "rule 11: calls go " + depth + " deep from " + name);
    }
  }

  /** How deep calls go from a method, itself and the library's counted. */
  private static int depth(String name, List<String> open) {
    if (open.contains(name)) {
      hold(false, "no recursion: " + open + " " + name);
      return 0;
    }
    open.add(name);
    int deepest = 0;
    for (String called : CALLS.getOrDefault(name, Set.of())) {
      deepest = Math.max(deepest, depth(called, open));
    }
    open.remove(open.size() - 1);
    return deepest + 1;
  }

  /** All calls of a run share one room, so what an object takes of it is held, whatever is told. */
  private static void room() throws Exception {
    DoorsOnCogs x = new DoorsOnCogs();
    int[] fresh = room(x);
    hold(fresh[0] <= 100 && fresh[1] <= 16000, "the room of an object: " + Arrays.toString(fresh));
    Bench.street(x, "door 10 6;door 20 5;door 9 0;axle 0 1;mesh 1 2");
    Bench.rule(x, "push 1 if not [ place < 3 ]");
    for (int i = 0; i < 100; i++) {
      x.coming(i % 3);
      x.planned(7, 0);
      x.cut(0, 2);
      x.drawn(0, 3, 60, 0);
      x.image(i % 4);
    }
    hold(Arrays.equals(fresh, room(x)), "no call makes an object");
  }

  /** How many objects and arrays hang on one, and how many fields and elements these have. */
  private static int[] room(Object first) throws Exception {
    Set<Object> found = Collections.newSetFromMap(new IdentityHashMap<>());
    List<Object> todo = new ArrayList<>();
    todo.add(first);
    int elements = 0;
    while (!todo.isEmpty()) {
      Object o = todo.remove(todo.size() - 1);
      if (o == null || !found.add(o)) {
        continue;
      }
      if (o.getClass().isArray()) {
        elements += Array.getLength(o);
        if (o instanceof Object[] row) {
          Collections.addAll(todo, row);
        }
        continue;
      }
      for (Field f : o.getClass().getDeclaredFields()) {
        if (!Modifier.isStatic(f.getModifiers())) {
          elements++;
          f.setAccessible(true);
          if (!f.getType().isPrimitive()) {
            todo.add(f.get(o));
          }
        }
      }
    }
    return new int[] {found.size(), elements};
  }
}
