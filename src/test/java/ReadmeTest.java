import java.lang.reflect.Method;
import java.nio.charset.StandardCharsets;
import java.nio.file.Files;
import java.nio.file.Path;
import java.util.regex.Matcher;
import java.util.regex.Pattern;

/** The examples of README.md, each call with the answer that stands behind it. */
public final class ReadmeTest extends Bench {
  private static final Pattern MADE = Pattern.compile("DoorsOnCogs x = new DoorsOnCogs\\(\\);");
  private static final Pattern TOLD = Pattern.compile("tell\\(x, \"([^\"]*)\"\\);");
  private static final Pattern ASKED =
      Pattern.compile("x\\.(\\w+)\\(([^)]*)\\);\\s*// (-?\\w+).*");

  private static int examples = 0;

  public static void main(String[] args) throws Exception {
    sentence("README.md");
    DoorsOnCogs x = null;
    boolean isCode = false;
    for (String line : Files.readString(Path.of("README.md"), StandardCharsets.UTF_8).split("\n")) {
      if (line.startsWith("```")) {
        isCode = line.equals("```java");
      } else if (isCode && MADE.matcher(line).matches()) {
        x = new DoorsOnCogs();
      } else if (isCode && line.matches("(x\\.|tell\\().*")) {
        follow(x, line);
      }
    }
    due("more than twenty examples", examples > 20, true);
    finish();
  }

  private static void follow(DoorsOnCogs x, String line) throws Exception {
    Matcher told = TOLD.matcher(line);
    Matcher asked = ASKED.matcher(line);
    if (told.matches()) {
      due("bytes on the tape before " + line, x.count(9), 0);
      write(x, told.group(1));
    } else if (asked.matches()) {
      examples++;
      due(line, numberOf(answer(x, asked.group(1), asked.group(2))), numberOf(asked.group(3)));
    } else {
      due("an answer behind " + line, false, true);
    }
  }

  private static Object answer(DoorsOnCogs x, String name, String told) throws Exception {
    String[] words = told.isEmpty() ? new String[0] : told.split(", ");
    for (Method m : DoorsOnCogs.class.getMethods()) {
      if (m.getName().equals(name) && m.getParameterCount() == words.length) {
        Object[] values = new Object[words.length];
        for (int i = 0; i < words.length; i++) {
          boolean isNumber = m.getParameterTypes()[i] == int.class;
          values[i] = isNumber ? (Object) Integer.decode(words[i]) : Boolean.valueOf(words[i]);
        }
        return m.invoke(x, values);
      }
    }
    return "no such call";
  }

  private static long numberOf(Object answer) {
    String word = answer.toString();
    if (word.equals("true") || word.equals("false")) {
      return bit(word.equals("true"));
    }
    return word.matches("-?\\d+") ? Long.parseLong(word) : FEW;
  }
}
