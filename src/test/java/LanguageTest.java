import java.io.IOException;
import java.lang.reflect.Constructor;
import java.lang.reflect.Field;
import java.lang.reflect.Method;
import java.lang.reflect.Modifier;
import java.nio.file.Files;
import java.nio.file.Path;
import java.util.ArrayList;
import java.util.HashSet;
import java.util.List;
import java.util.Set;
import java.util.TreeSet;
import java.util.regex.Matcher;
import java.util.regex.Pattern;

/** The public face of DOC.md, and what can be seen of the rules of LANGUAGE.md in the source and in the class. */
public final class LanguageTest {
  private static final Tests T = new Tests("LanguageTest");
  private static final Path SOURCE = Path.of("src/main/java/Sessionstore.java");
  private static String bare;

  public static void main(String[] args) throws IOException {
    String source = Files.readString(SOURCE);
    bare = bare(source);
    face();
    nothingElse();
    classesInside();
    words();
    signs(source);
    statics();
    exceptions();
    sizes(source);
    T.end();
  }

  /** Without comments, and without what stands in quotes. */
  private static String bare(String source) {
    String text = source.replaceAll("\"(\\\\.|[^\"\\\\\n])*\"", "\"\"").replaceAll("'(\\\\.|[^'\\\\\n])'", "' '");
    return text.replaceAll("(?s)/\\*.*?\\*/", "").replaceAll("//[^\n]*", "");
  }

  private static String told(Method method) {
    StringBuilder line = new StringBuilder("public " + method.getReturnType().getSimpleName() + " " + method.getName() + "(");
    for (int i = 0; i < method.getParameterCount(); i++) {
      line.append(i > 0 ? ", " : "").append(method.getParameterTypes()[i].getSimpleName());
    }
    line.append(")");
    for (int i = 0; i < method.getExceptionTypes().length; i++) {
      line.append(i > 0 ? ", " : " throws ").append(method.getExceptionTypes()[i].getSimpleName());
    }
    return line.toString();
  }

  private static void face() throws IOException {
    String document = Files.readString(Path.of("../shared/DOC.md"));
    int from = document.indexOf("```java");
    String block = document.substring(from, document.indexOf("```", from + 3));
    Set<String> due = new TreeSet<>();
    for (String line : block.split("\n")) {
      if (line.startsWith("    public ") && !line.contains("Sessionstore(")) {
        due.add(line.trim().replace(";", "").replaceAll("(int|boolean) \\w+(?=[,)])", "$1"));
      }
    }
    Set<String> got = new TreeSet<>();
    for (Method method : Sessionstore.class.getDeclaredMethods()) {
      if (Modifier.isPublic(method.getModifiers())) {
        got.add(told(method));
        T.same(method.getName() + " of an object", false, Modifier.isStatic(method.getModifiers()));
      }
    }
    T.same("so many methods", 47, due.size());
    T.same("the public face", due, got);
    T.same("public and final", Modifier.PUBLIC | Modifier.FINAL, Sessionstore.class.getModifiers());
    T.same("its kind", Object.class, Sessionstore.class.getSuperclass());
    T.same("one constructor", 1, Sessionstore.class.getDeclaredConstructors().length);
    Constructor<?> constructor = Sessionstore.class.getDeclaredConstructors()[0];
    T.same("public", "1 0", constructor.getModifiers() + " " + constructor.getParameterCount());
  }

  private static void nothingElse() {
    Set<String> open = new HashSet<>();
    for (Method method : Sessionstore.class.getDeclaredMethods()) {
      if (Modifier.isPublic(method.getModifiers())) {
        T.same("only once: " + method.getName(), true, open.add(method.getName()));
      }
    }
    for (Method method : Sessionstore.class.getDeclaredMethods()) {
      boolean isPublic = Modifier.isPublic(method.getModifiers());
      T.same("rule 1, private: " + method.getName(), true, isPublic || Modifier.isPrivate(method.getModifiers()));
      T.same("rule 1, a name of its own: " + method.getName(), true, isPublic || !open.contains(method.getName()));
    }
    for (Field field : Sessionstore.class.getDeclaredFields()) {
      T.same("rule 1, private: " + field.getName(), true, Modifier.isPrivate(field.getModifiers()));
    }
  }

  private static List<Class<?>> all() {
    List<Class<?>> all = new ArrayList<>();
    all.add(Sessionstore.class);
    for (Class<?> inside : Sessionstore.class.getDeclaredClasses()) {
      all.add(inside);
    }
    return all;
  }

  private static void classesInside() {
    T.same("rule 11, some twelve classes", true, all().size() <= 12);
    for (Class<?> one : all()) {
      if (one != Sessionstore.class) {
        T.same("rule 1, static: " + one, true, Modifier.isStatic(one.getModifiers()));
        T.same("rule 1, not public: " + one, true, (one.getModifiers() & (Modifier.PUBLIC | Modifier.PROTECTED)) == 0);
        T.same("rule 2, none inside that: " + one, 0, one.getDeclaredClasses().length);
      }
      int fields = 0;
      for (Field field : one.getDeclaredFields()) {
        fields += Modifier.isStatic(field.getModifiers()) ? 0 : 1;
        T.same("rule 3, the type of " + field, true, isType(field.getType()));
      }
      T.same("rule 11, some twenty fields: " + one + " has " + fields, true, fields <= 20);
      for (Method method : one.getDeclaredMethods()) {
        T.same("rule 2, no lambda: " + method, false, method.isSynthetic());
        T.same("rule 11, at most seven parameters: " + method, true, method.getParameterCount() <= 7);
        T.same("rule 6: " + method, false, Set.of("equals", "hashCode", "toString").contains(method.getName()));
      }
    }
  }

  private static boolean isType(Class<?> type) {
    Class<?> part = type.isArray() ? type.getComponentType() : type;
    boolean isText = part == String.class || part == StringBuilder.class;
    return part.isPrimitive() || isText && !type.isArray() || part.getDeclaringClass() == Sessionstore.class;
  }

  private static Set<String> found(String pattern) {
    Set<String> all = new TreeSet<>();
    Matcher matcher = Pattern.compile(pattern).matcher(bare);
    while (matcher.find()) {
      all.add(matcher.group(1));
    }
    return all;
  }

  private static void words() {
    T.same("no package", Set.of(), found("(?m)^\\s*(package)\\b"));
    T.same("rule 4, imports", Set.of("java.util.Arrays"), found("import ([\\w.* ]+);"));
    T.same("rule 4, of Arrays", true, Set.of("copyOf", "copyOfRange", "fill").containsAll(found("\\bArrays\\.(\\w+)")));
    T.same("rule 4, of Math", true, Set.of("abs", "max", "min").containsAll(found("\\bMath\\.(\\w+)")));
    T.same("rule 4, of System", Set.of("arraycopy"), found("\\bSystem\\.(\\w+)"));
    T.same("rule 4, of Integer", true, Set.of("bitCount").containsAll(found("\\bInteger\\.(\\w+)")));
    T.same("rules 2 and 6", Set.of(), found("(->|::|\\b(?:try|catch|finally|synchronized|assert|volatile|transient|native)\\b)"));
    T.same("rules 3 and 13", Set.of(), found("\\b(double|float|Object|Thread|Random|Runtime|Class|var)\\b"));
    T.same("rule 10, no joining by +", Set.of(), found("(\"\" \\+|\\+ \"\")"));
    T.same("rule 9, no loop without an end", Set.of(), found("(while \\(true\\)|for \\(;;\\))"));
    T.same("rule 9, no while", Set.of(), found("\\b(while)\\b"));
  }

  private static void signs(String source) {
    for (int i = 0; i < source.length(); i++) {
      char sign = source.charAt(i);
      if (sign != '\n' && (sign < ' ' || sign > '~')) {
        T.same("rule 4, the sign at " + i, "1 to 127", (int) sign);
      }
    }
    T.same("rule 3, no arrays of more than two dimensions", Set.of(), found("(\\w+\\[\\]\\[\\]\\[\\])"));
    T.same("rule 3, two dimensions of numbers alone", Set.of(), found("\\b([A-Z]\\w*\\[\\]\\[\\])"));
  }

  private static void statics() {
    for (Class<?> one : all()) {
      for (Field field : one.getDeclaredFields()) {
        if (Modifier.isStatic(field.getModifiers())) {
          Class<?> type = field.getType();
          boolean isConstant = type == int.class || type == long.class || type == boolean.class || type == char.class
              || type == String.class || type == int[].class || type == long[].class;
          T.same("rule 5, final: " + field, true, Modifier.isFinal(field.getModifiers()));
          T.same("rule 5, the type of " + field, true, isConstant);
        }
      }
    }
    T.same("rule 5, no static block", Set.of(), found("(?m)^\\s*(static) \\{"));
    T.same("rule 5, an array that never changes", Set.of(), found("(SAMPLE_TOKENS\\[[^\\]]*\\] [-+*|&^]?=[^=])"));
  }

  private static void exceptions() {
    T.same("rule 6, what is thrown", Set.of("IllegalArgumentException", "IllegalStateException", "IndexOutOfBoundsException"),
        found("\\bthrow new (\\w+)\\("));
    T.same("rule 6, thrown anew alone", Set.of(), found("\\b(throw) (?!new)"));
    Matcher made = Pattern.compile("(?m)^ {2,4}(?:public )?[A-Z]\\w*\\([^)]*\\) \\{\n(.*\n)*?^ {2,4}\\}").matcher(bare);
    int many = 0;
    while (made.find()) {
      many++;
      T.same("rule 6, no throw in a constructor", false, made.group().contains("throw"));
    }
    T.same("constructors were looked at", true, many >= 3);
  }

  private static void sizes(String source) {
    String[] lines = source.split("\n");
    int longest = 0;
    for (int i = 0; i < lines.length; i++) {
      boolean isHead = lines[i].matches(" {2}( {2})?(public |private |static )*[\\w\\[\\]<>]+ \\w+\\(.*");
      if (isHead) {
        String end = lines[i].replaceAll("\\S.*", "") + "}";
        int last = i;
        while (last < lines.length && !lines[last].equals(end)) {
          last++;
        }
        longest = Math.max(longest, last - i + 1);
      }
    }
    T.same("rule 11, methods of some sixty lines; the longest has " + longest, true, longest > 10 && longest <= 60);
  }
}
