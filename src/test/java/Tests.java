/** What the tests share: a count of wrong answers, and statements typed as text. */
final class Tests {
  static final int OUT = 1;
  static final int ARGUMENT = 2;
  static final int STATE = 3;

  private static final String[] WORDS = (
      "select from where group having order desc limit join left on insert values update set delete create drop"
      + " index check refs notnull and or not is null in exists count sum min max * + - / ( ) [ ] , = <> < <= > >="
      + " outer a b c T0 T1 T2 T3 c0 c1 c2 c3").split(" ");

  private final String name;
  private int wrong;
  private int asked;

  Tests(String name) {
    this.name = name;
  }

  interface Call {
    Object ask();
  }

  /** The number of a token, by its word. */
  static int token(String word) {
    for (int i = 0; i < WORDS.length; i++) {
      if (WORDS[i].equals(word)) {
        return i;
      }
    }
    return 100 + Integer.parseInt(word);
  }

  /** Types a text behind what is typed. */
  static void type(Sessionstore x, int session, String text) {
    for (String word : text.trim().split(" +")) {
      x.say(session, token(word), -1, -1, -1, -1);
    }
  }

  /** Types a text in the place of what is typed, and runs it. */
  static int run(Sessionstore x, int session, String text) {
    x.wipe(session, 60);
    type(x, session, text);
    return x.run(session);
  }

  /** Runs a text that has to be right. */
  static void must(Sessionstore x, int session, String text) {
    int got = run(x, session, text);
    if (got < 0) {
      throw new AssertionError(text + " answered " + got);
    }
  }

  /** The rows that a query tells. */
  static String ask(Sessionstore x, int session, String text) {
    int got = run(x, session, text);
    return got < 0 ? "answered " + got : x.answer(session);
  }

  /** The error of a text as "number@place", "" without. */
  static String fault(Sessionstore x, int session, String text) {
    x.wipe(session, 60);
    if (!text.isEmpty()) {
      type(x, session, text);
    }
    int error = x.fault(session, 0);
    return error == 0 && x.fault(session, 1) == -1 ? "" : error + "@" + x.fault(session, 1);
  }

  static Sessionstore samples(int... numbers) {
    Sessionstore x = new Sessionstore();
    for (int number : numbers) {
      x.sample(0, number, 0, 0);
      x.run(0);
    }
    return x;
  }

  void same(String what, Object want, Object got) {
    asked++;
    if (!want.equals(got)) {
      wrong++;
      System.out.println(name + ": " + what + " answered " + got + ", due is " + want);
    }
  }

  /** The exception that is due, and that the call changes nothing. */
  void fails(String what, int kind, Sessionstore x, Call call) {
    long before = x.digest();
    int got = 0;
    try {
      call.ask();
    } catch (IndexOutOfBoundsException e) {
      got = e.getClass() == IndexOutOfBoundsException.class ? OUT : -1;
    } catch (IllegalArgumentException e) {
      got = e.getClass() == IllegalArgumentException.class ? ARGUMENT : -1;
    } catch (IllegalStateException e) {
      got = e.getClass() == IllegalStateException.class ? STATE : -1;
    } catch (RuntimeException e) {
      got = -1;
    }
    same(what + " throws", kind, got);
    same(what + " changes nothing", before, x.digest());
  }

  void end() {
    System.out.println(name + ": " + (asked - wrong) + " of " + asked + " answers are as due");
    if (wrong != 0) {
      System.exit(1);
    }
  }
}
