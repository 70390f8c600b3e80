import java.io.IOException;
import java.io.UncheckedIOException;
import java.nio.file.Files;
import java.nio.file.Path;

/** What the tests share: a count of wrong answers, the sentences that they hold, and statements typed as text. */
final class Tests {
  static final int OUT = 1;
  static final int ARGUMENT = 2;
  static final int STATE = 3;

  private static final String[] WORDS = (
      "select from where group having order desc limit join left on insert values update set delete create drop"
      + " index check refs notnull and or not is null in exists count sum min max * + - / ( ) [ ] , = <> < <= > >="
      + " outer a b c T0 T1 T2 T3 c0 c1 c2 c3").split(" ");

  private static final String DOCUMENT = document();

  private final String name;
  private String sentence = "";
  private int wrong;
  private int asked;

  Tests(String name) {
    this.name = name;
  }

  interface Call {
    Object ask();
  }

  /** The text of DOC.md, with one blank wherever there are blanks or ends of lines. */
  private static String document() {
    try {
      return Files.readString(Path.of("../shared/DOC.md")).replaceAll("\\s+", " ");
    } catch (IOException e) {
      throw new UncheckedIOException(e);
    }
  }

  /** The sentence of the document that the next answers hold; it has to stand there, word for word. */
  void says(String said) {
    sentence = said;
    same("stands in the document: " + said, true, DOCUMENT.contains(said));
  }

  /** The like of a promise. */
  void promise(int number, String said) {
    sentence = "promise " + number + ": " + said;
    int from = DOCUMENT.indexOf("## Promise " + number + ":");
    int to = DOCUMENT.indexOf("## ", from + 3);
    boolean isSaid = from >= 0 && to > from && DOCUMENT.substring(from, to).contains(said);
    same("stands in the document: " + sentence, true, isSaid);
  }

  /** The number of a token, by its word. */
  static int token(String word) {
    for (int i = 0; i < WORDS.length; i++) {
      if (WORDS[i].equals(word)) {
        return i;
      }
    }
    return 100 + Integer.parseInt(word);
  }

  /** The word of a token. */
  static String word(int token) {
    return token >= 100 ? String.valueOf(token - 100) : WORDS[token];
  }

  /** Types a text behind what is typed. */
  static void type(Sessionstore x, int session, String text) {
    String[] words = text.trim().split(" +");
    for (int i = 0; i < words.length; i += 5) {
      int[] five = {-1, -1, -1, -1, -1};
      for (int k = 0; k < 5 && i + k < words.length; k++) {
        five[k] = token(words[i + k]);
      }
      x.say(session, five[0], five[1], five[2], five[3], five[4]);
    }
  }

  /** Types a text in the place of what is typed, and runs it. */
  static int run(Sessionstore x, int session, String text) {
    x.wipe(session, 60);
    type(x, session, text);
    return x.run(session);
  }

  /** Runs a text that has to be right. */
  static void must(Sessionstore x, int session, String text) {
    int got = run(x, session, text);
    if (got < 0) {
      throw new AssertionError(text + " answered " + got);
    }
  }

  /** The rows that a query tells. */
  static String ask(Sessionstore x, int session, String text) {
    int got = run(x, session, text);
    return got < 0 ? "answered " + got : x.answer(session);
  }

  /** The error of a text as "number@place", "" without. */
  static String fault(Sessionstore x, int session, String text) {
    x.wipe(session, 60);
    if (!text.isEmpty()) {
      type(x, session, text);
    }
    int error = x.fault(session, 0);
    return error == 0 && x.fault(session, 1) == -1 ? "" : error + "@" + x.fault(session, 1);
  }

  static Sessionstore samples(int... numbers) {
    Sessionstore x = new Sessionstore();
    for (int number : numbers) {
      x.sample(0, number, 0, 0);
      x.run(0);
    }
    return x;
  }

  void same(String what, Object want, Object got) {
    asked++;
    if (!want.equals(got)) {
      wrong++;
      System.out.println(name + ": " + what + " answered " + got + ", due is " + want);
      if (!sentence.isEmpty()) {
        System.out.println("  the sentence: " + sentence);
      }
    }
  }

  /** The exception that is due, and that the call changes nothing. */
  void fails(String what, int kind, Sessionstore x, Call call) {
    long before = x.digest();
    int got = 0;
    try {
      call.ask();
    } catch (IndexOutOfBoundsException e) {
      got = e.getClass() == IndexOutOfBoundsException.class ? OUT : -1;
    } catch (IllegalArgumentException e) {
      got = e.getClass() == IllegalArgumentException.class ? ARGUMENT : -1;
    } catch (IllegalStateException e) {
      got = e.getClass() == IllegalStateException.class ? STATE : -1;
    } catch (RuntimeException e) {
      got = -1;
    }
    same(what + " throws", kind, got);
    same(what + " changes nothing", before, x.digest());
  }

  void end() {
    System.out.println(name + ": " + (asked - wrong) + " of " + asked + " answers are as due");
    if (wrong != 0) {
      System.exit(1);
    }
  }
}
