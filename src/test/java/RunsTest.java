import java.io.IOException;
import java.lang.reflect.InvocationTargetException;
import java.lang.reflect.Method;
import java.lang.reflect.Modifier;
import java.nio.file.Files;
import java.nio.file.Path;
import java.util.HashMap;
import java.util.Map;

/**
 * Long runs of calls with the answers that other programs gave to them: a second one, made from the document alone, to
 * the runs "all", "lock" and "syntax"; a third one, made from the document after the class was read, to "record".
 */
public final class RunsTest {
  private static final Tests T = new Tests("RunsTest");
  private static final Map<String, Method> METHODS = new HashMap<>();

  public static void main(String[] args) throws IOException {
    for (Method method : Sessionstore.class.getDeclaredMethods()) {
      if (Modifier.isPublic(method.getModifiers())) {
        METHODS.put(method.getName(), method);
      }
    }
    Sessionstore x = null;
    String run = "";
    int number = 0;
    for (String line : Files.readAllLines(Path.of("src/test/runs/runs.txt"))) {
      number++;
      if (line.startsWith("new ")) {
        x = new Sessionstore();
        run = line;
        continue;
      }
      int equal = line.indexOf(" = ");
      String call = line.substring(0, equal);
      T.same(run + ", line " + number + ": " + call, line.substring(equal + 3), answer(x, call.split(" ")));
    }
    T.end();
  }

  private static String answer(Sessionstore x, String[] words) {
    Method method = METHODS.get(words[0]);
    Class<?>[] types = method.getParameterTypes();
    Object[] given = new Object[types.length];
    for (int i = 0; i < types.length; i++) {
      int value = Integer.parseInt(words[i + 1]);
      given[i] = types[i] == boolean.class ? (Object) (value != 0) : (Object) value;
    }
    try {
      Object got = method.invoke(x, given);
      return got instanceof Boolean ? ((Boolean) got ? "1" : "0") : got.toString();
    } catch (InvocationTargetException e) {
      return told(e.getCause());
    } catch (IllegalAccessException e) {
      return "not to be called";
    }
  }

  private static String told(Throwable thrown) {
    String name = thrown.getClass().getSimpleName();
    switch (name) {
      case "IndexOutOfBoundsException": return "throws.IOOB";
      case "IllegalArgumentException": return "throws.IAE";
      case "IllegalStateException": return "throws.ISE";
      default: return "throws." + name;
    }
  }
}
