import java.lang.reflect.InvocationTargetException;
import java.lang.reflect.Method;
import java.lang.reflect.Modifier;
import java.util.ArrayList;
import java.util.Arrays;
import java.util.List;

/**
 * The sentences on exceptions: each method is called with all its edges, ON and OFF, and it throws what its
 * promise names first, or nothing; and what throws, or only tells, changes nothing.
 */
public final class ThrowsTest {
  private static final Tests T = new Tests("ThrowsTest");
  private static final int NEW = 0;
  private static final int BUSY = 1;
  private static final int STATES = 2;

  private static final int[] SESSION = {Integer.MIN_VALUE, -1, 0, 1, 2, 3, 4, Integer.MAX_VALUE};
  private static final int[] TABLE = {Integer.MIN_VALUE, -1, 0, 1, 2, 3, 4, Integer.MAX_VALUE};
  private static final int[] KEY = {Integer.MIN_VALUE, -1, 0, 19, 20, Integer.MAX_VALUE};
  private static final int[] COLUMN = {Integer.MIN_VALUE, -1, 0, 2, 3, 4, Integer.MAX_VALUE};
  private static final int[] BIT = {0, 1};

  /** What is so in a state: of each session, and of each table. */
  private static final boolean[][] HAS_ONE = {{false, false, false, false}, {true, true, true, false}};
  private static final boolean[][] WAITS = {{false, false, false, false}, {false, true, false, false}};
  private static final int[][] POINTS = {{0, 0, 0, 0}, {5, 0, 0, 0}};
  private static final int[][] TYPED = {{0, 0, 0, 0}, {58, 4, 0, 60}};
  private static final int[][] ROWS = {{0, 0, 0, 0}, {0, 0, 2, 0}};
  private static final int[][] WIDTH = {{0, 0, 0, 0}, {0, 0, 3, 0}};
  private static final int[][] COLUMNS = {{0, 0, 0, 0}, {3, 2, 0, 0}};

  public static void main(String[] args) {
    typing();
    running();
    transactions();
    disc();
    ofSessions();
    ofTables();
    ofTheWhole();
    allMethods();
    T.end();
  }

  private static Sessionstore in(int state) {
    Sessionstore x = new Sessionstore();
    if (state == BUSY) {
      Tests.must(x, 0, "create T0 ( c0 , c1 , c2 )");
      Tests.must(x, 0, "create T1 ( c0 , c1 refs T0 )");
      Tests.must(x, 0, "insert T0 values ( 0 , 1 , 2 )");
      Tests.must(x, 0, "insert T0 values ( 19 , null , 3 )");
      x.lazy(true);
      Tests.must(x, 0, "insert T1 values ( 5 , 19 )");
      x.begin(0, 2);
      x.savepoint(0, 0);
      Tests.must(x, 0, "update T0 set c1 = 7 where c0 = 0");
      x.savepoint(0, 2);
      Tests.run(x, 1, "delete T0");
      x.begin(2, 1);
      Tests.must(x, 2, "select * from T0");
      fill(x, 0, 58);
      Tests.type(x, 1, "select c0 from T0");
      fill(x, 3, 60);
      x.knock();
    }
    return x;
  }

  private static void fill(Sessionstore x, int session, int many) {
    for (int i = 0; i < many; i += 2) {
      x.say(session, 0, -1, -1, -1, 199);
    }
  }

  /** All that is told of an object that is not too dear to ask for. */
  private static String told(Sessionstore x) {
    StringBuilder all = new StringBuilder();
    all.append(x.digest()).append(' ').append(x.house(5));
    for (int i = 0; i <= 5; i++) {
      all.append(' ').append(x.disc(i));
    }
    for (int i = 0; i < 4 && x.disc(2) == 1; i++) {
      all.append('/').append(x.typed(i)).append('/').append(x.answer(i)).append('/').append(x.table(i));
      all.append('/').append(x.made(i));
      for (int t = 0; t < 4; t++) {
        all.append('/').append(x.seen(i, t)).append(x.changed(i, t));
      }
    }
    return all.toString();
  }

  private static Method method(String name) {
    for (Method method : Sessionstore.class.getDeclaredMethods()) {
      if (Modifier.isPublic(method.getModifiers()) && method.getName().equals(name)) {
        return method;
      }
    }
    throw new AssertionError(name);
  }

  /** 0 if nothing is thrown, -1 if it is none of the three. */
  private static int call(Sessionstore x, Method method, int[] args) {
    Class<?>[] types = method.getParameterTypes();
    Object[] given = new Object[args.length];
    for (int i = 0; i < args.length; i++) {
      given[i] = types[i] == boolean.class ? (Object) (args[i] != 0) : (Object) args[i];
    }
    try {
      method.invoke(x, given);
      return 0;
    } catch (InvocationTargetException e) {
      Class<?> kind = e.getCause().getClass();
      return kind == IndexOutOfBoundsException.class ? Tests.OUT : kind == IllegalArgumentException.class ? Tests.ARGUMENT
          : kind == IllegalStateException.class ? Tests.STATE : -1;
    } catch (IllegalAccessException e) {
      return -1;
    }
  }

  private static final List<String> DONE = new ArrayList<>();

  /** Calls a method with all of these arguments, in all states, ON and OFF. */
  private static void all(int promise, String name, int[]... edges) {
    DONE.add(name);
    List<int[]> rows = new ArrayList<>();
    rows.add(new int[0]);
    for (int[] edge : edges) {
      List<int[]> longer = new ArrayList<>();
      for (int[] row : rows) {
        for (int value : edge) {
          int[] next = Arrays.copyOf(row, row.length + 1);
          next[row.length] = value;
          longer.add(next);
        }
      }
      rows = longer;
    }
    for (int[] row : rows) {
      one(promise, name, row);
    }
  }

  private static void one(int promise, String name, int... args) {
    for (int state = 0; state < STATES; state++) {
      for (int off = 0; off < 2; off++) {
        Sessionstore x = in(state);
        if (off == 1) {
          x.crash(false);
        }
        String what = name + Arrays.toString(args) + (state == NEW ? ", new" : ", busy") + (off == 1 ? ", OFF" : ", ON");
        String before = told(x);
        int due = due(state, off == 1, name, args);
        T.same("promise " + promise + ", " + what, due, call(x, method(name), args));
        if (due != 0 || promise >= 20) {
          T.same(what + " changes nothing", before, told(x));
        }
        if (off == 1 && due != 0) {
          Sessionstore twin = in(state);
          twin.crash(false);
          twin.recover(-1);
          x.recover(-1);
          T.same(what + " changes nothing that is found", told(twin), told(x));
        }
      }
    }
  }

  private static boolean is(int[] args, int place, int from, int to) {
    return args[place] >= from && args[place] <= to;
  }

  private static int first(boolean isOut, boolean isWrong, boolean isNotNow) {
    return isOut ? Tests.OUT : isWrong ? Tests.ARGUMENT : isNotNow ? Tests.STATE : 0;
  }

  /** What is due, by the lines of the promises. */
  private static int due(int state, boolean isOff, String name, int[] args) {
    int s = args.length > 0 && is(args, 0, 0, 3) ? args[0] : 0;
    boolean isOut = args.length > 0 && !is(args, 0, 0, 3);
    boolean hasOne = HAS_ONE[state][s];
    boolean waits = WAITS[state][s];
    switch (name) {
      case "say": return dueOfSay(state, isOff, isOut, args);
      case "sample": return first(isOut, !is(args, 1, 0, 19) || !is(args, 2, 0, 99) || !is(args, 3, 0, 99), isOff);
      case "wipe": return first(isOut, args[1] < 1, isOff);
      case "run": return first(isOut, false, isOff || waits);
      case "begin": return first(isOut, !is(args, 1, 0, 2), isOff || hasOne);
      case "commit": return first(isOut, false, isOff || !hasOne || waits);
      case "rollback": return first(isOut, false, isOff || !hasOne);
      case "savepoint": return first(isOut, !is(args, 1, 0, 2), isOff || !hasOne || waits);
      case "back": {
        boolean isSet = is(args, 1, 0, 2) && (POINTS[state][s] & (1 << args[1])) != 0;
        return first(isOut, !is(args, 1, 0, 2), isOff || !hasOne || waits || !isSet);
      }
      case "giveUp": return first(isOut, false, isOff || !waits);
      case "tried":
      case "wouldFind": return first(isOut, false, isOff || waits);
      case "safe": return first(false, args[0] < 1, isOff);
      case "pages": return first(false, !is(args, 0, 1, 20), isOff);
      case "recover": return first(false, !is(args, 0, -1, 99), !isOff);
      case "lazy":
      case "checkpoint":
      case "crash":
      case "vacuum":
      case "order":
      case "low":
      case "waits": return first(false, false, isOff);
      case "knock":
      case "isSound":
      case "digest": return 0;
      case "disc": return first(false, !is(args, 0, 0, 5), false);
      case "house": return first(false, !is(args, 0, 0, 7), isOff && args[0] != 5);
      default: return dueOfAsking(state, isOff, name, isOut, s, args);
    }
  }

  private static int dueOfSay(int state, boolean isOff, boolean isOut, int[] args) {
    boolean isWrong = false;
    int many = 0;
    for (int i = 1; i < args.length; i++) {
      isWrong |= !is(args, i, -1, 59) && !is(args, i, 100, 199);
      many += args[i] == -1 ? 0 : 1;
    }
    return first(isOut, isWrong, isOff || !isOut && TYPED[state][args[0]] + many > 60);
  }

  private static int dueOfAsking(int state, boolean isOff, String name, boolean isOut, int s, int[] args) {
    int typed = isOff ? 0 : TYPED[state][s];
    int rows = isOff ? 0 : ROWS[state][s];
    int columns = COLUMNS[state][s];
    switch (name) {
      case "typed":
      case "answer":
      case "table":
      case "made": return first(isOut, false, isOff);
      case "fault": return first(isOut, !is(args, 1, 0, 1), isOff);
      case "token": return first(isOut || !is(args, 1, 0, typed - 1), false, isOff);
      case "result": return first(isOut, !is(args, 1, 0, 4), isOff);
      case "value":
        return first(isOut || !is(args, 1, 0, rows - 1) || !is(args, 2, 0, WIDTH[state][s] - 1), false, isOff);
      case "ofSession": return first(isOut, !is(args, 1, 0, 7), isOff);
      case "locks":
      case "changed":
      case "seen":
      case "seesCommitted": return first(isOut || !is(args, 1, 0, 3), false, isOff);
      case "writer":
      case "referring":
      case "versions": return first(isOut, !is(args, 1, 0, 19), isOff);
      case "ofTable": return first(isOut, !is(args, 1, 0, 5), isOff);
      case "ofColumn": return first(isOut || !is(args, 1, 0, columns - 1), !is(args, 2, 0, 2), isOff);
      case "cell": return first(isOut || !is(args, 2, 0, columns - 1), !is(args, 1, 0, 19), isOff);
      case "found": return first(isOut || !is(args, 1, 0, columns - 1), !is(args, 2, -9999, 9999), isOff);
      default: throw new AssertionError(name);
    }
  }

  private static final String NO_SESSION = "Throws `IndexOutOfBoundsException` if session is not 0 to 3";
  private static final String NO_TABLE = "Throws `IndexOutOfBoundsException` if table is not 0 to 3";
  private static final String OFF = "Throws `IllegalStateException` if the power is OFF";

  private static void says(int promise, String... lines) {
    for (String line : lines) {
      T.promise(promise, line);
    }
  }

  private static void typing() {
    T.says("If several exceptions apply, the one that is named first is thrown.");
    says(2, NO_SESSION, "Throws `IllegalArgumentException` if one is no TOKEN and not NONE", OFF + ", or there would be more"
        + " than 60");
    int[] tokens = {Integer.MIN_VALUE, -2, -1, 0, 59, 60, 99, 100, 199, 200, Integer.MAX_VALUE};
    for (int session : SESSION) {
      for (int place = 1; place <= 5; place++) {
        for (int token : tokens) {
          int[] args = {session, -1, -1, -1, -1, -1};
          args[place] = token;
          one(2, "say", args);
        }
      }
      one(2, "say", session, 0, 0, -1, -1, -1);
      one(2, "say", session, -1, 0, -1, 0, 0);
      one(2, "say", session, 60, 0, 0, 0, 0);
      one(2, "say", session, 0, 0, 0, 0, 99);
    }
    DONE.add("say");
    says(3, NO_SESSION, "Throws `IllegalArgumentException` if sample is not 0 to 19, or x or y not 0 to 99", OFF);
    int[] numbers = {-1, 0, 99, 100};
    all(3, "sample", SESSION, new int[] {Integer.MIN_VALUE, -1, 0, 19, 20}, numbers, numbers);
    says(4, NO_SESSION, "Throws `IllegalArgumentException` if many is below 1", OFF);
    all(4, "wipe", SESSION, new int[] {Integer.MIN_VALUE, -1, 0, 1, 58, 60, Integer.MAX_VALUE});
  }

  private static void running() {
    says(5, NO_SESSION, OFF + ", or the SESSION WAITS");
    all(5, "run", SESSION);
    says(32, NO_SESSION, OFF + ", or the SESSION WAITS");
    all(32, "tried", SESSION);
    says(33, NO_SESSION, OFF + ", or the SESSION WAITS");
    all(33, "wouldFind", SESSION);
  }

  private static void transactions() {
    says(6, NO_SESSION, "Throws `IllegalArgumentException` if level is not 0 to 2", OFF + ", or it has one");
    all(6, "begin", SESSION, new int[] {Integer.MIN_VALUE, -1, 0, 1, 2, 3});
    says(7, NO_SESSION, OFF + ", it has no transaction, or it WAITS");
    all(7, "commit", SESSION);
    says(8, NO_SESSION, OFF + ", or it has no transaction");
    all(8, "rollback", SESSION);
    int[] points = {Integer.MIN_VALUE, -1, 0, 1, 2, 3, 31, 32};
    says(9, NO_SESSION, "Throws `IllegalArgumentException` if k is not 0 to 2", OFF + ", it has no transaction, or it WAITS");
    all(9, "savepoint", SESSION, points);
    says(10, NO_SESSION, "Throws `IllegalArgumentException` if k is not 0 to 2", OFF + ", it has no transaction, it WAITS,"
        + " or that one is not set");
    all(10, "back", SESSION, points);
    says(11, NO_SESSION, OFF + ", or it does not WAIT");
    all(11, "giveUp", SESSION);
  }

  private static void disc() {
    says(12, OFF);
    all(12, "lazy", BIT);
    says(13, "Throws `IllegalArgumentException` if many is below 1", OFF);
    all(13, "safe", new int[] {Integer.MIN_VALUE, -1, 0, 1, 2, Integer.MAX_VALUE});
    says(14, "Throws `IllegalArgumentException` if many is not 1 to 20", OFF);
    all(14, "pages", new int[] {Integer.MIN_VALUE, -1, 0, 1, 20, 21, Integer.MAX_VALUE});
    says(15, OFF);
    all(15, "checkpoint");
    says(16, OFF);
    all(16, "crash", BIT);
    says(17, "Throws `IllegalArgumentException` if steps is not -1 to 99", "Throws `IllegalStateException` if the power is ON");
    all(17, "recover", new int[] {Integer.MIN_VALUE, -2, -1, 0, 1, 99, 100, Integer.MAX_VALUE});
    says(18, OFF);
    all(18, "vacuum");
    all(19, "knock");
  }

  private static void ofSessions() {
    says(20, NO_SESSION, OFF);
    all(20, "typed", SESSION);
    says(21, NO_SESSION, "Throws `IllegalArgumentException` if what is not 0 or 1", OFF);
    all(21, "fault", SESSION, new int[] {-1, 0, 1, 2});
    says(22, NO_SESSION + ", or there is no such place", OFF);
    all(22, "token", SESSION, new int[] {Integer.MIN_VALUE, -1, 0, 3, 4, 57, 58, 59, 60, Integer.MAX_VALUE});
    says(23, NO_SESSION, "Throws `IllegalArgumentException` if what is not 0 to 4", OFF);
    all(23, "result", SESSION, new int[] {-1, 0, 4, 5});
    says(24, NO_SESSION, OFF);
    all(24, "answer", SESSION);
    says(25, NO_SESSION + ", or there is no such ROW or place", OFF);
    all(25, "value", SESSION, new int[] {Integer.MIN_VALUE, -1, 0, 1, 2, Integer.MAX_VALUE},
        new int[] {Integer.MIN_VALUE, -1, 0, 2, 3, Integer.MAX_VALUE});
    says(26, NO_SESSION, "Throws `IllegalArgumentException` if what is not 0 to 7", OFF);
    all(26, "ofSession", SESSION, new int[] {-1, 0, 7, 8});
    says(27, NO_SESSION + ", or table is not 0 to 3", OFF);
    all(27, "locks", SESSION, TABLE, BIT);
    says(28, NO_SESSION + ", or table is not 0 to 3", OFF);
    all(28, "changed", SESSION, TABLE);
    says(29, NO_TABLE, "Throws `IllegalArgumentException` if key is not 0 to 19", OFF);
    all(29, "writer", TABLE, KEY);
    says(30, NO_SESSION + ", or table is not 0 to 3", OFF);
    all(30, "seen", SESSION, TABLE);
    says(31, NO_SESSION + ", or table is not 0 to 3", OFF);
    all(31, "seesCommitted", SESSION, TABLE);
  }

  private static void ofTables() {
    says(34, NO_TABLE, "Throws `IllegalArgumentException` if what is not 0 to 5", OFF);
    all(34, "ofTable", TABLE, new int[] {-1, 0, 5, 6});
    says(35, NO_TABLE + ", or it has no such COLUMN", "Throws `IllegalArgumentException` if what is not 0 to 2", OFF);
    all(35, "ofColumn", TABLE, COLUMN, new int[] {-1, 0, 2, 3});
    says(36, NO_TABLE, OFF);
    all(36, "table", TABLE);
    says(37, NO_TABLE + ", or it has no such COLUMN", "Throws `IllegalArgumentException` if key is not 0 to 19", OFF);
    all(37, "cell", TABLE, KEY, COLUMN);
    says(38, NO_TABLE + ", or it has no such COLUMN", "Throws `IllegalArgumentException` if value is not -9999 to 9999", OFF);
    all(38, "found", TABLE, COLUMN, new int[] {Integer.MIN_VALUE, -99999, -10000, -9999, 0, 9999, 10000, Integer.MAX_VALUE});
    says(39, NO_TABLE, "Throws `IllegalArgumentException` if key is not 0 to 19", OFF);
    all(39, "referring", TABLE, KEY);
    says(40, NO_TABLE, "Throws `IllegalArgumentException` if key is not 0 to 19", OFF);
    all(40, "versions", TABLE, KEY);
    says(41, NO_TABLE, OFF);
    all(41, "made", TABLE);
  }

  private static void ofTheWhole() {
    says(42, OFF);
    all(42, "order");
    says(43, OFF);
    all(43, "low");
    says(44, OFF);
    all(44, "waits");
    T.says("While the power is OFF, all calls but recover(), knock(), disc(), house() of 5, isSound() and digest() throw"
        + " IllegalStateException (named last, if not told otherwise).");
    says(45, "Throws `IllegalArgumentException` if what is not 0 to 5");
    all(45, "disc", new int[] {Integer.MIN_VALUE, -1, 0, 1, 2, 3, 4, 5, 6, Integer.MAX_VALUE});
    says(46, "Throws `IllegalArgumentException` if what is not 0 to 7", OFF + ", and what is not 5");
    all(46, "house", new int[] {Integer.MIN_VALUE, -1, 0, 1, 2, 3, 4, 5, 6, 7, 8, Integer.MAX_VALUE});
    all(47, "isSound");
    all(48, "digest");
  }

  private static void allMethods() {
    T.says("A method that throws an exception changes nothing.");
    for (Method method : Sessionstore.class.getDeclaredMethods()) {
      if (Modifier.isPublic(method.getModifiers())) {
        T.same(method.getName() + " was called", true, DONE.contains(method.getName()));
      }
    }
    T.same("so many methods", 47, DONE.size());
  }
}
