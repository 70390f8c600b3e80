import java.io.IOException;
import java.lang.reflect.Method;
import java.nio.file.Files;
import java.nio.file.Path;
import java.util.regex.Matcher;
import java.util.regex.Pattern;

/** The examples of README.md: each line calls, and tells behind it the answer, or the statement that is typed then. */
public final class ReadmeTest {
  private static final Tests T = new Tests("ReadmeTest");
  private static final Pattern LINE = Pattern.compile("x\\.(\\w+)\\(([^)]*)\\); +// (.*)");
  private static final Pattern NUMBER = Pattern.compile("^-?\\d+");

  public static void main(String[] args) throws IOException, ReflectiveOperationException {
    Sessionstore x = new Sessionstore();
    boolean isCode = false;
    int lines = 0;
    for (String line : Files.readAllLines(Path.of("README.md"))) {
      if (line.startsWith("```")) {
        isCode = line.equals("```java");
      } else if (isCode && !line.startsWith("Sessionstore x = ")) {
        Matcher matcher = LINE.matcher(line);
        T.same("a call with its answer: " + line, true, matcher.matches());
        if (matcher.matches()) {
          lines++;
          look(x, matcher.group(1), matcher.group(2).split(", *"), matcher.group(3));
        }
      }
    }
    T.same("lines were looked at", true, lines > 20);
    T.end();
  }

  private static void look(Sessionstore x, String name, String[] words, String told) throws ReflectiveOperationException {
    String got = String.valueOf(call(x, name, words));
    String what = name + "(" + String.join(", ", words) + ")";
    Matcher number = NUMBER.matcher(told);
    if (number.find()) {
      T.same(what, number.group(), got);
    } else if (told.startsWith("\"")) {
      T.same(what, told, "\"" + got + "\"");
    } else {
      T.same("typed behind " + what, told, x.typed(Integer.parseInt(words[0])));
    }
  }

  private static Object call(Sessionstore x, String name, String[] words) throws ReflectiveOperationException {
    for (Method method : Sessionstore.class.getMethods()) {
      if (method.getName().equals(name)) {
        Class<?>[] types = method.getParameterTypes();
        Object[] given = new Object[types.length];
        for (int i = 0; i < types.length; i++) {
          given[i] = types[i] == boolean.class ? (Object) words[i].equals("true") : (Object) Integer.valueOf(words[i]);
        }
        return method.invoke(x, given);
      }
    }
    return "no such call";
  }
}
