/** What the promises return at their edges: nothing, one, all; each with the line of the document that it holds. */
public final class PromisesTest {
  private static final Tests T = new Tests("PromisesTest");

  public static void main(String[] args) {
    newObject();
    say();
    sample();
    wipe();
    run();
    numbersAndNone();
    discReturns();
    giveUp();
    lazy();
    textsOfNothing();
    texts();
    fault();
    result();
    value();
    ofSession();
    locks();
    changedAndWriter();
    seen();
    seesCommitted();
    tried();
    triedIsRun();
    wouldFind();
    ofTable();
    ofColumn();
    cells();
    found();
    referring();
    versions();
    made();
    waits();
    disc();
    house();
    isSound();
    lastSixSerials();
    digest();
    T.end();
  }

  /** T0 ( c0 , c1 ) with 0,10 5,- 19,20 and T1 ( c0 , c1 refs T0 , c2 refs T0 ) with 3,5,5 4,-,19. */
  private static Sessionstore plain() {
    Sessionstore x = new Sessionstore();
    Tests.must(x, 0, "create T0 ( c0 , c1 )");
    Tests.must(x, 0, "create T1 ( c0 , c1 refs T0 , c2 refs T0 )");
    Tests.must(x, 0, "insert T0 values ( 19 , 20 )");
    Tests.must(x, 0, "insert T0 values ( 0 , 10 )");
    Tests.must(x, 0, "insert T0 values ( 5 , null )");
    Tests.must(x, 0, "insert T1 values ( 4 , null , 19 )");
    Tests.must(x, 0, "insert T1 values ( 3 , 5 , 5 )");
    return x;
  }

  private static void run(Sessionstore x, int session, String text, int want) {
    T.same(session + ": " + text, want, Tests.run(x, session, text));
  }

  private static void newObject() {
    T.promise(1, "Creates a database without tables; the power is ON.");
    Sessionstore x = new Sessionstore();
    for (int what = 0; what < 8; what++) {
      T.same("house " + what, 0, x.house(what));
    }
    String disc = "";
    for (int what = 0; what < 6; what++) {
      disc += x.disc(what);
    }
    T.same("disc", "001000", disc);
    for (int t = 0; t < 4; t++) {
      for (int what = 0; what < 6; what++) {
        T.same("ofTable", 0, x.ofTable(t, what));
      }
      T.same("no row", "", x.table(t));
    }
    for (int s = 0; s < 4; s++) {
      T.same("no level", -1, x.ofSession(s, 0));
      T.same("no result", "0 0 0 0 -1", x.result(s, 0) + " " + x.result(s, 1) + " " + x.result(s, 2) + " "
          + x.result(s, 3) + " " + x.result(s, 4));
    }
    T.same("sound", true, x.isSound());
    T.same("low", 0, x.low());
  }

  private static void say() {
    T.promise(2, "Returns how many are TYPED then.");
    Sessionstore x = new Sessionstore();
    T.same("none", 0, x.say(0, -1, -1, -1, -1, -1));
    T.promise(2, "- `a`: a TOKEN, or NONE for none");
    T.same("one of five", 1, x.say(0, -1, -1, 16, -1, -1));
    T.same("all five", 6, x.say(0, 52, 37, 56, 38, 19));
    T.promise(2, "Types TOKENS behind TYPED.");
    T.same("in their sequence", "create T0 ( c0 ) check", x.typed(0));
    T.same("first, and last", 8, x.say(0, 100, -1, -1, -1, 42));
    T.same("behind", "create T0 ( c0 ) check 0 =", x.typed(0));
    T.same("of each session its own", 0, x.ofSession(1, 6));
  }

  private static void sample() {
    T.promise(3, "A SAMPLE comes in the place of TYPED.");
    Sessionstore x = new Sessionstore();
    x.say(0, 0, 0, 0, 0, 0);
    T.same("how many", 3, x.sample(0, 2, 0, 0));
    T.same("in the place", "index T0 c1", x.typed(0));
    T.promise(3, "Returns how many TOKENS it has.");
    T.same("the first", 14, x.sample(0, 0, 0, 0));
    T.same("the last", 2, x.sample(0, 19, 99, 99));
    T.same("the last", "drop T1", x.typed(0));
    T.says("SAMPLES (x and y are NUMBERS):");
    x.sample(0, 3, 0, 99);
    T.same("x 0 and y 99", "insert T0 values ( 0 , 99 , 1 )", x.typed(0));
    x.sample(0, 18, 99, 0);
    T.same("x 99 and y 0", "update T0 set c0 = 0 where c0 = 99", x.typed(0));
    for (int i = 0; i < 20; i++) {
      Sessionstore y = new Sessionstore();
      int many = y.sample(3, i, 37, 58);
      T.same("sample " + i + " is told by DOC.md", true, many > 0 && y.fault(3, 0) != 1);
      T.says(i + " " + y.typed(3).replace("37", "x").replace("58", "y") + " ");
    }
    Sessionstore y = Tests.samples(0, 1);
    T.says("0 create T0 ( c0 , c1 , c2 notnull ) check c1 <= 50 1 create T1 ( c0 , c1 refs T0 , c2 ) 2 index T0 c1");
    for (int i = 2; i < 20; i++) {
      y.sample(0, i, 1, 1);
      T.same("sample " + i + " is right", 0, y.fault(0, 0));
    }
  }

  private static void wipe() {
    T.promise(4, "- `many`: how many (all, if there are fewer)");
    Sessionstore x = new Sessionstore();
    T.same("of none", 0, x.wipe(0, 1));
    x.sample(0, 9, 1, 2);
    T.promise(4, "Takes the last TOKENS of TYPED away.");
    T.same("one", 11, x.wipe(0, 1));
    T.same("what is left", "select * from T0 where c0 >= 1 and c0 <=", x.typed(0));
    T.promise(4, "Returns how many are left.");
    T.same("ten", 1, x.wipe(0, 10));
    T.same("the last", 0, x.wipe(0, 1));
    x.sample(0, 9, 1, 2);
    T.same("as many as there are", 0, x.wipe(0, 12));
    x.sample(0, 9, 1, 2);
    T.same("more than there are", 0, x.wipe(0, 13));
    x.sample(0, 9, 1, 2);
    T.same("the greatest number", 0, x.wipe(0, Integer.MAX_VALUE));
    T.same("nothing", "", x.typed(0));
  }

  private static void run() {
    T.promise(5, "Runs TYPED, which is empty then.");
    Sessionstore x = plain();
    x.begin(1, 0);
    run(x, 1, "update T0 set c1 = 1 where c0 = 0", 1);
    String[] texts = {"", "select", "drop T3", "insert T0 values ( 1 )", "create T2 ( c0 )", "insert T0 values ( 20 , 0 )",
        "delete T1 where c0 = 9", "select * from T0", "select * from T0 limit 0", "insert T0 values ( 7 , 7 )",
        "insert T1 values ( 8 , 8 , null )", "delete T0 where c0 = 0"};
    int[] codes = {-11, -11, -12, -13, -14, -15, 0, 3, 0, 1, -20, -2};
    T.promise(5, "Returns how many ROWS (CHANGED, ROWS); 0 for DONE; -2 if it WAITS; -10 less its number for an ERROR.");
    for (int i = 0; i < texts.length; i++) {
      if (!texts[i].isEmpty()) {
        Tests.type(x, 0, texts[i]);
      }
      T.same("run of " + texts[i], codes[i], x.run(0));
      T.same("empty behind " + texts[i], 0, x.ofSession(0, 6));
      T.same("no text behind " + texts[i], "", x.typed(0));
    }
    x.commit(1);
    T.same("done", 0, x.house(3));
    run(x, 0, "create T2 ( c0 )", 0);
    run(x, 0, "index T2 c0", 0);
    run(x, 0, "drop T2", 0);
    run(x, 0, "update T0 set c1 = 1", 3);
  }

  private static void numbersAndNone() {
    T.promise(6, "Returns its number.");
    Sessionstore x = plain();
    T.same("begin", 6, x.begin(3, 2));
    T.same("begin", 7, x.begin(0, 0));
    T.promise(7, "Returns the COMMIT number; 0 without one.");
    T.same("without one", 0, x.commit(3));
    run(x, 0, "update T0 set c1 = c1 where c0 = 0", 1);
    T.same("the next", 6, x.commit(0));
    T.promise(8, "Returns how many changes (as RECORDS) were taken back.");
    x.begin(0, 0);
    T.same("none", 0, x.rollback(0));
    x.begin(0, 0);
    run(x, 0, "update T0 set c0 = c0 + 1 where c0 = 0", 1);
    T.same("old and new KEY", 2, x.rollback(0));
    T.promise(9, "Returns how many KEYS the transaction has changed (as section 4 tells it; also one that is put in and"
        + " deleted in it).");
    x.begin(0, 0);
    T.same("none", 0, x.savepoint(0, 0));
    run(x, 0, "update T0 set c1 = c1", 3);
    run(x, 0, "update T0 set c1 = c1", 3);
    T.same("each once", 3, x.savepoint(0, 0));
    run(x, 0, "insert T1 values ( 9 , null , null )", 1);
    run(x, 0, "delete T1 where c0 = 9", 1);
    T.same("also one that is put in and deleted", 4, x.savepoint(0, 1));
    T.promise(10, "Returns how many changes (as RECORDS) were taken back.");
    T.same("none", 0, x.back(0, 1));
    T.same("two", 2, x.back(0, 0));
    T.same("none again", 0, x.back(0, 0));
  }

  private static void discReturns() {
    T.promise(13, "The next RECORDS get SAFE.");
    T.promise(13, "Returns how many are SAFE then.");
    Sessionstore x = plain();
    x.lazy(true);
    run(x, 0, "update T0 set c1 = 1", 3);
    T.same("of 14, 10 are", "11 13 14 14", x.safe(1) + " " + x.safe(2) + " " + x.safe(1) + " " + x.safe(1));
    run(x, 0, "update T0 set c1 = 2", 3);
    T.promise(14, "Returns how many RECORDS are SAFE.");
    T.same("of 18", 14, x.pages(7));
    T.promise(15, "Returns how many RECORDS are SAFE.");
    T.same("all 18", 18, x.checkpoint());
    T.promise(16, "CRASH. - `isTorn`: whether a page is torn by it");
    run(x, 0, "update T0 set c1 = 3 where c0 = 0", 1);
    T.same("the last one", 1, x.crash(true));
    T.promise(17, "- `steps`: how many; NONE: it is not broken off Returns the last COMMIT number.");
    T.same("the one ahead of it", 7, x.recover(-1));
    T.promise(18, "VACUUM. Returns how many VERSIONS went.");
    T.same("one of each is left", 0, x.vacuum());
    run(x, 0, "update T0 set c1 = 4", 3);
    run(x, 0, "delete T0 where c0 = 0", 1);
    T.same("three of the KEY that is GONE, one of each of the others", 5, x.vacuum());
    T.same("none again", 0, x.vacuum());
    T.promise(19, "Knocks. Returns how many were REFUSED ever, with this.");
    T.same("with this", "1 2", x.knock() + " " + x.knock());
    T.promise(43, "Returns LOW, as for VACUUM.");
    T.same("the last COMMIT number", 9, x.low());
    x.begin(0, 1);
    run(x, 1, "update T0 set c1 = 5 where c0 = 5", 1);
    T.same("as it began", 9, x.low());
  }

  private static void giveUp() {
    T.promise(11, "A statement that WAITS is given up: ERROR 12 GIVEN UP; a transaction that it began by itself is ROLLED BACK,"
        + " another one stays.");
    Sessionstore x = plain();
    x.begin(0, 0);
    run(x, 0, "update T0 set c1 = 1 where c0 = 0", 1);
    run(x, 1, "update T0 set c1 = 2 where c0 = 0", -2);
    x.begin(2, 0);
    run(x, 2, "update T0 set c1 = 3 where c0 = 5", 1);
    run(x, 2, "update T0 set c1 = 4 where c0 = 0", -2);
    run(x, 3, "update T0 set c1 = 5 where c0 = 5", -2);
    T.promise(11, "Returns the number of its transaction.");
    T.same("its own", 7, x.giveUp(1));
    T.same("another one", 8, x.giveUp(2));
    for (int session = 1; session <= 2; session++) {
      T.same("result", "3 0 0 12 -1", x.result(session, 0) + " " + x.result(session, 1) + " " + x.result(session, 2) + " "
          + x.result(session, 3) + " " + x.result(session, 4));
      T.same("waits no more", 0, x.ofSession(session, 1));
    }
    T.same("rolled back", "0 -1 0", x.ofSession(1, 2) + " " + x.ofSession(1, 0) + " " + x.ofSession(1, 3));
    T.same("stays", "8 0 1", x.ofSession(2, 2) + " " + x.ofSession(2, 0) + " " + x.ofSession(2, 4));
    T.same("it holds its lock", "3>2", x.waits());
    x.commit(0);
    T.same("neither was done", 1, x.cell(0, 0, 1));
    x.commit(2);
    T.same("what it did ahead is there, and who waited went on", 5, x.cell(0, 5, 1));
    T.fails("not again", Tests.STATE, x, () -> x.giveUp(1));
  }

  private static void lazy() {
    T.promise(12, "Returns 1 if they were, otherwise 0.");
    Sessionstore x = new Sessionstore();
    T.same("at first", 0, x.lazy(true));
    T.same("they were", 1, x.lazy(true));
    T.same("they were", 1, x.lazy(false));
    T.same("they were not", 0, x.lazy(false));
    T.promise(12, "Tells whether COMMITS are LAZY from now on (also behind a crash).");
    x.lazy(true);
    x.crash(false);
    T.same("told while OFF", 1, x.disc(3));
    x.recover(-1);
    T.same("behind a crash", 1, x.lazy(false));
    x.crash(false);
    x.recover(-1);
    T.same("behind a crash", 0, x.lazy(false));
  }

  private static void textsOfNothing() {
    T.promise(20, "Returns the TEXT of TYPED; \"\" if nothing is.");
    Sessionstore x = new Sessionstore();
    T.same("typed", "", x.typed(0));
    T.promise(24, "Returns the ROWS of its RESULT, in their sequence; \"\" without.");
    T.same("no result", "", x.answer(0));
    run(x, 0, "create T0 ( c0 , c1 )", 0);
    T.same("no rows of DONE", "", x.answer(0));
    run(x, 0, "select * from T0", 0);
    T.same("0 ROWS", "", x.answer(0));
    T.promise(30, "Returns the ROWS that a query without a condition would see there now; \"\" without.");
    T.same("no rows", "", x.seen(0, 0));
    T.same("no table", "", x.seen(0, 1));
    T.promise(33, "Returns ROWS that TYPED would tell now, if it is a query without an ERROR (whatever locks there are); \"\""
        + " otherwise.");
    T.same("nothing typed", "", x.wouldFind(0));
    Tests.type(x, 0, "select * from T0");
    T.same("no rows", "", x.wouldFind(0));
    T.promise(36, "Returns its ROWS that are COMMITTED, by KEYS; \"\" without.");
    T.same("no rows", "", x.table(0));
    T.same("no table", "", x.table(3));
    T.promise(40, "Returns its VERSIONS, each as its COMMIT number, \":\" and the ROW (\"gone\" if GONE), with one blank between;"
        + " \"\" without.");
    T.same("no versions", "", x.versions(0, 0));
    T.same("no table", "", x.versions(3, 19));
    T.promise(41, "Returns the TEXT of the create by which it came; \"\" without.");
    T.same("no table", "", x.made(1));
    T.promise(42, "Returns ORDER, with one blank between; \"\" without.");
    T.same("no order", "", x.order());
    T.promise(44, "with one blank between; \"\" without.");
    T.same("no waits", "", x.waits());
    x.begin(0, 2);
    T.same("no order of what is open", "", x.order());
    x.rollback(0);
    T.same("no order of what is rolled back", "", x.order());
  }

  private static void texts() {
    T.says("A VALUE as a text: its number, \"-\" for NULL. A ROW: its VALUES with \",\" between; ROWS with \";\" between (without"
        + " blanks).");
    Sessionstore x = plain();
    T.same("one column", "19", Tests.ask(x, 0, "select c0 from T0 where c1 = 20"));
    T.same("NULL alone", "-", Tests.ask(x, 0, "select c1 from T0 where c1 is null"));
    T.same("below 0", "-19,-1;-5,-;0,-1", Tests.ask(x, 0, "select - c0 , c1 / c1 * - 1 from T0 order c0 desc"));
    T.same("bounds", "9999,-9999", Tests.ask(x, 0, "select 99 * 99 + 99 + 99 , - 99 * 99 - 99 - 99 from T0 limit 1"));
    T.same("twelve", "0,10,0,10,0,10", Tests.ask(x, 0,
        "select * from T0 join T0 on b c0 = 0 join T0 on c c0 = 0 where c0 = 0"));
    T.same("table", "0,10;5,-;19,20", x.table(0));
    T.same("seen", "3,5,5;4,-,19", x.seen(2, 1));
    T.promise(24, "Returns the ROWS of its RESULT, in their sequence;");
    run(x, 0, "select c0 from T0 order c1 desc", 3);
    T.same("in their sequence", "19;0;5", x.answer(0));
    T.promise(20, "Returns the TEXT of TYPED;");
    x.say(0, 41, 100, 199, 33, -1);
    T.same("words between blanks", ", 0 99 *", x.typed(0));
  }

  private static void fault() {
    T.promise(21, "- `what`: 0 the number of the ERROR (1 to 3; 0 without) that TYPED has, 1 its PLACE (NONE without)");
    Sessionstore x = plain();
    T.same("empty", "1@0", x.fault(0, 0) + "@" + x.fault(0, 1));
    String[] texts = {"select c0 from T0", "select c0 from", "select c3 from T0", "select * from T0 group c0",
        "create T0 ( c0 )", "insert T0 values ( 99 , 0 )"};
    String[] faults = {"0@-1", "1@3", "2@1", "3@1", "0@-1", "0@-1"};
    for (int i = 0; i < texts.length; i++) {
      x.wipe(0, 60);
      Tests.type(x, 0, texts[i]);
      T.same(texts[i], faults[i], x.fault(0, 0) + "@" + x.fault(0, 1));
      T.same("it stays typed", texts[i], x.typed(0));
    }
    T.promise(22, "Returns the TOKEN there.");
    x.sample(1, 3, 0, 99);
    T.same("the first", 11, x.token(1, 0));
    T.same("x", 100, x.token(1, 4));
    T.same("y", 199, x.token(1, 6));
    T.same("the last", 38, x.token(1, 9));
    T.fails("none behind", Tests.OUT, x, () -> x.token(1, 10));
    T.fails("none of nothing", Tests.OUT, x, () -> x.token(2, 0));
  }

  private static void result() {
    T.promise(23, "- `what`: 0 KIND, 1 how many ROWS (of 1 and 2; else 0), 2 how many VALUES each has (of 2, also with 0 ROWS;"
        + " else 0), 3 the number of the ERROR (0 without), 4 PLACE (NONE without)");
    Sessionstore x = plain();
    String[] texts = {"select * from T0", "select * from T0 join T1 on 1 = 1", "select 1 from T0 where 1 = 2", "delete T1 where"
        + " c0 = 9", "update T1 set c1 = 0", "index T0 c0", "index T0 c0", "select", "select c3 from T0",
        "insert T1 values ( 1 )", "insert T0 values ( 0 , 0 )"};
    String[] results = {"2 3 2 0 -1", "2 6 5 0 -1", "2 0 1 0 -1", "1 0 0 0 -1", "1 2 0 0 -1", "5 0 0 0 -1", "3 0 0 4 -1",
        "3 0 0 1 1", "3 0 0 2 1", "3 0 0 3 2", "3 0 0 8 -1"};
    for (int i = 0; i < texts.length; i++) {
      Tests.run(x, 0, texts[i]);
      T.same(texts[i], results[i], x.result(0, 0) + " " + x.result(0, 1) + " " + x.result(0, 2) + " " + x.result(0, 3) + " "
          + x.result(0, 4));
    }
  }

  private static void value() {
    T.promise(25, "Returns the VALUE there; -99999 for NULL.");
    Sessionstore x = plain();
    run(x, 0, "select c0 , c1 , - c1 from T0", 3);
    T.same("first", 0, x.value(0, 0, 0));
    T.same("NULL", -99999, x.value(0, 1, 1));
    T.same("last", -20, x.value(0, 2, 2));
    T.fails("row 3", Tests.OUT, x, () -> x.value(0, 3, 0));
    T.fails("place 3", Tests.OUT, x, () -> x.value(0, 0, 3));
    T.fails("of a session without a RESULT", Tests.OUT, x, () -> x.value(1, 0, 0));
    run(x, 0, "select c0 from T0 limit 0", 0);
    T.fails("0 ROWS", Tests.OUT, x, () -> x.value(0, 0, 0));
    run(x, 0, "update T0 set c1 = 1", 3);
    T.fails("of CHANGED", Tests.OUT, x, () -> x.value(0, 0, 0));
  }

  private static void ofSession() {
    T.promise(26, "- `what`: 0 its LEVEL (NONE without a transaction), 1 1 if it WAITS, otherwise 0, 2 the number of its"
        + " transaction (0 without), 3 the COMMIT number that was the last one as that began (0 without), 4 how many KEYS it has"
        + " changed (as changed() tells them), 5 the set of SAVEPOINTS, 6 how many TOKENS are TYPED, 7 the set of SESSIONS for"
        + " which it WAITS now");
    Sessionstore x = plain();
    x.begin(3, 2);
    run(x, 3, "update T0 set c0 = 1 where c0 = 0", 1);
    run(x, 3, "insert T1 values ( 9 , null , null )", 1);
    x.savepoint(3, 0);
    x.savepoint(3, 2);
    Tests.type(x, 3, "select");
    x.begin(0, 1);
    run(x, 2, "delete T1", -2);
    fillTyped(x, 2);
    String[] want = {"1 0 7 5 0 0 0 0", "-1 0 0 0 0 0 0 0", "0 1 8 5 0 0 60 8", "2 0 6 5 3 5 1 0"};
    for (int session = 0; session < 4; session++) {
      String got = "";
      for (int what = 0; what < 8; what++) {
        got += (what > 0 ? " " : "") + x.ofSession(session, what);
      }
      T.same("session " + session, want[session], got);
    }
  }

  private static void fillTyped(Sessionstore x, int session) {
    for (int i = 0; i < 12; i++) {
      x.say(session, 0, 0, 0, 0, 0);
    }
  }

  private static void locks() {
    T.promise(27, "Returns the set of KEYS on which it holds these (a WRITE lock is no READ one).");
    Sessionstore x = plain();
    for (int t = 0; t < 4; t++) {
      T.same("none", 0, x.locks(0, t, true) | x.locks(0, t, false));
    }
    x.begin(0, 0);
    run(x, 0, "update T0 set c1 = 1", 3);
    T.same("WRITE ones", 1 | 1 << 5 | 1 << 19, x.locks(0, 0, true));
    T.same("are no READ ones", 0, x.locks(0, 0, false));
    run(x, 0, "insert T1 values ( 9 , 19 , 0 )", 1);
    T.same("READ ones", 1 | 1 << 19, x.locks(0, 0, false));
    T.same("of another TABLE", 1 << 9, x.locks(0, 1, true));
    x.begin(1, 2);
    run(x, 1, "select c0 from T2", -12);
    run(x, 1, "select c0 from T1 where c0 < 3", 0);
    T.same("KEYS without ROWS", 7, x.locks(1, 1, false));
    T.same("none of another session", 0, x.locks(2, 1, false));
  }

  private static void changedAndWriter() {
    T.promise(28, "Returns the set of KEYS that its transaction has changed (as section 4 tells it; also one that is put in and"
        + " deleted in it).");
    Sessionstore x = plain();
    T.same("without one", 0, x.changed(0, 0));
    x.begin(0, 1);
    T.same("none", 0, x.changed(0, 0));
    run(x, 0, "delete T1 where c0 = 4", 1);
    run(x, 0, "update T0 set c0 = 18 where c0 = 19", 1);
    run(x, 0, "insert T0 values ( 1 , 1 )", 1);
    run(x, 0, "delete T0 where c0 = 1", 1);
    T.same("T0", 1 << 1 | 1 << 18 | 1 << 19, x.changed(0, 0));
    T.same("T1", 1 << 4, x.changed(0, 1));
    T.same("T2", 0, x.changed(0, 2));
    T.same("in all", 4, x.ofSession(0, 4));
    T.promise(29, "Returns the SESSION that holds a WRITE lock on it; NONE without.");
    for (int k = 0; k < 20; k++) {
      T.same("writer of " + k, (x.locks(0, 0, true) & (1 << k)) != 0 ? 0 : -1, x.writer(0, k));
    }
    T.same("of T1", "0 -1", x.writer(1, 4) + " " + x.writer(1, 3));
    T.same("of no table", -1, x.writer(3, 19));
    x.begin(3, 2);
    run(x, 3, "delete T0 where c0 = 5", -2);
    run(x, 2, "insert T0 values ( 7 , 7 )", 1);
    T.same("a READ lock is none", -1, x.writer(0, 7));
    x.rollback(0);
    T.same("of another session", 10, x.result(3, 3));
    T.same("with an ERROR at 2", 3, x.writer(0, 5));
  }

  private static void seen() {
    T.promise(30, "Returns the ROWS that a query without a condition would see there now; \"\" without.");
    Sessionstore x = plain();
    x.begin(0, 0);
    x.begin(1, 1);
    x.begin(2, 2);
    run(x, 0, "delete T0 where c0 = 0", 1);
    run(x, 1, "insert T0 values ( 18 , 1 )", 1);
    T.same("own GONE", "5,-;19,20", x.seen(0, 0));
    T.same("own ROW", "0,10;5,-;18,1;19,20", x.seen(1, 0));
    T.same("neither", "0,10;5,-;19,20", x.seen(2, 0));
    T.same("nor without one", "0,10;5,-;19,20", x.seen(3, 0));
    x.commit(0);
    T.same("latest", "5,-;19,20", x.seen(2, 0));
    T.same("snapshot", "0,10;5,-;18,1;19,20", x.seen(1, 0));
    for (int session = 0; session < 4; session++) {
      Tests.type(x, session, "select * from T0");
      T.same("as the query", x.seen(session, 0), x.wouldFind(session));
    }
    run(x, 0, "delete T1", 2);
    T.same("none", "", x.seen(0, 1));
  }

  private static void seesCommitted() {
    T.promise(31, "Returns whether a query would see there now just what is COMMITTED.");
    Sessionstore x = plain();
    T.same("without one", true, x.seesCommitted(0, 0));
    T.same("no table", true, x.seesCommitted(0, 3));
    x.begin(1, 1);
    T.same("as it began", true, x.seesCommitted(1, 0));
    run(x, 0, "update T0 set c1 = 11 where c0 = 0", 1);
    T.same("another VALUE", false, x.seesCommitted(1, 0));
    T.same("another TABLE", true, x.seesCommitted(1, 1));
    run(x, 0, "update T0 set c1 = 10 where c0 = 0", 1);
    T.same("the same VALUES again", true, x.seesCommitted(1, 0));
    run(x, 0, "insert T0 values ( 7 , null )", 1);
    T.same("one more", false, x.seesCommitted(1, 0));
    run(x, 0, "delete T0 where c0 = 7", 1);
    T.same("no more", true, x.seesCommitted(1, 0));
    run(x, 0, "delete T1 where c0 = 3", 1);
    T.same("one less", false, x.seesCommitted(1, 1));
    x.begin(2, 0);
    run(x, 2, "update T0 set c1 = c1", 3);
    T.same("changed as they were", true, x.seesCommitted(2, 0));
    run(x, 2, "update T0 set c1 = 1 where c0 = 5", 1);
    T.same("own change", false, x.seesCommitted(2, 0));
    T.same("not of others", true, x.seesCommitted(3, 0));
  }

  private static void tried() {
    T.promise(32, "Returns what run() would return for TYPED now if nothing else came of it: -2 if it would WAIT (whoever would"
        + " give way).");
    Sessionstore x = plain();
    T.same("empty", -11, x.tried(0));
    x.begin(1, 0);
    x.begin(2, 0);
    run(x, 1, "update T0 set c1 = 1 where c0 = 0", 1);
    run(x, 2, "update T0 set c1 = 1 where c0 = 5", 1);
    run(x, 2, "update T0 set c1 = 1 where c0 = 0", -2);
    Tests.type(x, 1, "update T0 set c1 = 1 where c0 = 5");
    String before = x.waits() + x.house(6) + x.typed(1);
    T.same("a ring", -2, x.tried(1));
    T.same("nothing came of it", before, x.waits() + x.house(6) + x.typed(1));
    T.same("run, and the other one gives way", 1, x.run(1));
    T.same("a ring", 11, x.result(2, 3));
    Tests.type(x, 0, "delete T0 where c0 = 0");
    T.same("would WAIT", -2, x.tried(0));
    T.same("takes no number", 7, x.house(6));
  }

  /** tried() and then run(), of statements of all kinds, at all levels. */
  private static void triedIsRun() {
    String[] texts = {"select * from T0", "select c0 from T0 where c1 > 10", "insert T0 values ( 1 , 1 )",
        "insert T0 values ( 0 , 1 )", "insert T0 values ( 20 , 1 )", "insert T1 values ( 9 , 9 , null )",
        "update T0 set c1 = 0", "update T0 set c1 = 0 where c0 = 18", "delete T1", "delete T0", "create T2 ( c0 )",
        "create T0 ( c0 )", "drop T1", "drop T0", "drop T2", "index T0 c1", "select c2 from T0", "select * from T0 group c0",
        "select", "insert T0 values ( 5 , 5 )", "delete T0 where c0 = 5"};
    for (int level = -1; level < 3; level++) {
      for (int other = 0; other < 3; other++) {
        for (String text : texts) {
          Sessionstore x = plain();
          if (level >= 0) {
            x.begin(0, level);
          }
          if (other > 0) {
            x.begin(1, 0);
            run(x, 1, "update T0 set c1 = 1 where c0 = 5", 1);
          }
          if (other > 1) {
            x.commit(1);
          }
          Tests.type(x, 0, text);
          long before = x.digest();
          int tried = x.tried(0);
          T.same("tried changes nothing", before, x.digest());
          T.same(text + " at " + level + ", " + other, x.run(0), tried);
        }
      }
    }
  }

  private static void wouldFind() {
    T.promise(33, "Returns ROWS that TYPED would tell now, if it is a query without an ERROR (whatever locks there are); \"\""
        + " otherwise.");
    Sessionstore x = plain();
    Tests.type(x, 0, "select c0 from T0 where c1 >= 10");
    T.same("rows", "0;19", x.wouldFind(0));
    T.same("no RESULT by it", 1, x.result(0, 0));
    T.same("typed still", 8, x.ofSession(0, 6));
    x.say(0, 22, -1, -1, -1, -1);
    T.same("an ERROR 1", "", x.wouldFind(0));
    x.wipe(0, 60);
    Tests.type(x, 0, "select c2 from T0");
    T.same("an ERROR 2", "", x.wouldFind(0));
    x.wipe(0, 60);
    Tests.type(x, 0, "select c0 , count ( * ) from T0");
    T.same("an ERROR 3", "", x.wouldFind(0));
    x.wipe(0, 60);
    Tests.type(x, 0, "insert T0 select c0 + 1 , 1 from T0");
    T.same("no query", "", x.wouldFind(0));
    x.begin(1, 0);
    run(x, 1, "update T0 set c1 = 0", 3);
    x.begin(2, 2);
    Tests.type(x, 2, "select c1 from T0");
    T.same("whatever locks there are", "10;-;20", x.wouldFind(2));
    T.same("none by it", 0, x.locks(2, 0, false));
    T.same("run waits", -2, x.run(2));
    T.fails("waiting", Tests.STATE, x, () -> x.wouldFind(2));
  }

  private static String ofTable(Sessionstore x, int table) {
    String all = "";
    for (int what = 0; what < 6; what++) {
      all += (what > 0 ? " " : "") + x.ofTable(table, what);
    }
    return all;
  }

  private static void ofTable() {
    T.promise(34, "- `what`: 0 COLUMNS (0 if there is none), 1 ROWS that are COMMITTED, 2 VERSIONS, 3 INDEXES, 4 how many COLUMNS"
        + " of other TABLES REFER to it, 5 1 if it has a CHECK, otherwise 0");
    Sessionstore x = plain();
    T.same("T0", "2 3 3 0 2 0", ofTable(x, 0));
    T.same("T1", "3 2 2 0 0 0", ofTable(x, 1));
    T.same("none", "0 0 0 0 0 0", ofTable(x, 2));
    Sessionstore y = new Sessionstore();
    run(y, 0, "create T3 ( c0 ) check c0 < 9", 0);
    run(y, 0, "index T3 c0", 0);
    run(y, 0, "create T0 ( c0 refs T3 )", 0);
    run(y, 0, "insert T3 values ( 0 )", 1);
    run(y, 0, "insert T0 values ( 0 )", 1);
    T.same("of one COLUMN", "1 1 1 1 1 1/1 1 1 0 0 0", ofTable(y, 3) + "/" + ofTable(y, 0));
    T.same("T0 refers to it", 1, y.referring(3, 0));
    run(x, 0, "create T2 ( c0 refs T0 , c1 refs T1 , c2 , c3 ) check c0 = 1", 0);
    run(x, 0, "index T2 c0", 0);
    run(x, 0, "index T2 c3", 0);
    run(x, 0, "delete T1 where c0 = 3", 1);
    x.begin(0, 0);
    run(x, 0, "insert T0 values ( 1 , 1 )", 1);
    T.same("T0", "2 3 3 0 3 0", ofTable(x, 0));
    T.same("T1", "3 1 3 0 1 0", ofTable(x, 1));
    T.same("T2", "4 0 0 2 0 1", ofTable(x, 2));
  }

  private static void ofColumn() {
    T.promise(35, "- `what`: 0 1 if NOTNULL (as told), otherwise 0, 1 the TABLE to which it REFERS (NONE), 2 1 if there is an"
        + " INDEX, otherwise 0");
    Sessionstore x = new Sessionstore();
    run(x, 0, "create T3 ( c0 )", 0);
    run(x, 0, "create T0 ( c0 , c1 notnull , c2 refs T3 , c3 notnull refs T3 )", 0);
    run(x, 0, "index T0 c0", 0);
    run(x, 0, "index T0 c3", 0);
    String[] want = {"0 -1 1", "1 -1 0", "0 3 0", "1 3 1"};
    for (int c = 0; c < 4; c++) {
      T.same("c" + c, want[c], x.ofColumn(0, c, 0) + " " + x.ofColumn(0, c, 1) + " " + x.ofColumn(0, c, 2));
    }
    T.same("the KEY is not told as NOTNULL", 0, x.ofColumn(3, 0, 0));
    T.fails("c1 of T3", Tests.OUT, x, () -> x.ofColumn(3, 1, 0));
  }

  private static void cells() {
    T.promise(37, "Returns the VALUE that is COMMITTED there; -99999 for NULL, -88888 without such a ROW.");
    Sessionstore x = plain();
    T.same("the KEY 0", "0 10", x.cell(0, 0, 0) + " " + x.cell(0, 0, 1));
    T.same("NULL", -99999, x.cell(0, 5, 1));
    T.same("the KEY 19", 20, x.cell(0, 19, 1));
    for (int k = 0; k < 20; k++) {
      T.same("without a row", k % 19 != 0 && k != 5, x.cell(0, k, 1) == -88888);
    }
    x.begin(0, 0);
    run(x, 0, "update T0 set c1 = 1", 3);
    T.same("not COMMITTED", 10, x.cell(0, 0, 1));
    run(x, 0, "delete T1", 2);
    T.same("COMMITTED still", 5, x.cell(1, 3, 2));
    x.commit(0);
    T.same("COMMITTED", 1, x.cell(0, 0, 1));
    T.same("gone", -88888, x.cell(1, 3, 2));
    T.promise(36, "Returns its ROWS that are COMMITTED, by KEYS; \"\" without.");
    T.same("T0", "0,1;5,1;19,1", x.table(0));
    T.same("T1", "", x.table(1));
  }

  private static void found() {
    T.promise(38, "Returns the set of KEYS of ROWS that are COMMITTED with that VALUE (by the INDEX, if there is one).");
    for (int round = 0; round < 2; round++) {
      Sessionstore x = plain();
      if (round == 1) {
        run(x, 0, "index T0 c0", 0);
        run(x, 0, "index T0 c1", 0);
      }
      T.same("none", 0, x.found(0, 1, 5));
      T.same("NULL is no number", 0, x.found(0, 1, 0));
      T.same("one", 1, x.found(0, 1, 10));
      T.same("by the KEY", 1 << 19, x.found(0, 0, 19));
      T.same("beyond all KEYS", 0, x.found(0, 0, 9999));
      run(x, 0, "update T0 set c1 = - 99 * 99 - 99 - 99 where c0 > 0", 2);
      T.same("two at the bound", 1 << 5 | 1 << 19, x.found(0, 1, -9999));
      x.begin(0, 0);
      run(x, 0, "delete T0 where c0 = 0", 1);
      T.same("COMMITTED still", 1, x.found(0, 1, 10));
      x.commit(0);
      T.same("no more", 0, x.found(0, 1, 10));
    }
  }

  private static void referring() {
    T.promise(39, "Returns how many VALUES of ROWS that are COMMITTED REFER to it.");
    Sessionstore x = plain();
    T.same("two of one ROW", 2, x.referring(0, 5));
    T.same("one", 1, x.referring(0, 19));
    T.same("none", 0, x.referring(0, 0));
    T.same("a KEY without a ROW", 0, x.referring(0, 18));
    T.same("to which none refers", 0, x.referring(1, 3));
    T.same("no table", 0, x.referring(3, 0));
    x.begin(0, 0);
    run(x, 0, "update T1 set c1 = 0 , c2 = 0", 2);
    T.same("COMMITTED still", "0 2 1", x.referring(0, 0) + " " + x.referring(0, 5) + " " + x.referring(0, 19));
    x.commit(0);
    T.same("now", "4 0 0", x.referring(0, 0) + " " + x.referring(0, 5) + " " + x.referring(0, 19));
  }

  private static void versions() {
    T.promise(40, "Returns its VERSIONS, each as its COMMIT number, \":\" and the ROW (\"gone\" if GONE), with one blank between;");
    Sessionstore x = plain();
    T.same("one", "1:19,20", x.versions(0, 19));
    T.same("one", "2:0,10", x.versions(0, 0));
    run(x, 0, "delete T1 where c0 = 3", 1);
    T.same("two", "5:3,5,5 6:gone", x.versions(1, 3));
    run(x, 0, "insert T1 values ( 3 , null , 0 )", 1);
    T.same("three", "5:3,5,5 6:gone 7:3,-,0", x.versions(1, 3));
    T.same("none", "", x.versions(1, 0));
  }

  private static void made() {
    T.promise(41, "Returns the TEXT of the create by which it came; \"\" without.");
    Sessionstore x = plain();
    T.same("T1", "create T1 ( c0 , c1 refs T0 , c2 refs T0 )", x.made(1));
    run(x, 0, "create T1 ( c0 )", -14);
    T.same("not of one that was refused", "create T1 ( c0 , c1 refs T0 , c2 refs T0 )", x.made(1));
    run(x, 0, "drop T1", 0);
    T.same("none", "", x.made(1));
    run(x, 0, "create T1 ( c0 notnull ) check [ c0 <> 1 ] or c0 is null", 0);
    T.same("anew", "create T1 ( c0 notnull ) check [ c0 <> 1 ] or c0 is null", x.made(1));
    x.crash(false);
    x.recover(-1);
    T.same("behind a crash", "create T1 ( c0 notnull ) check [ c0 <> 1 ] or c0 is null", x.made(1));
    Sessionstore y = new Sessionstore();
    String longest = "create T3 ( c0 ) check c0 not in ( 1";
    for (int i = 0; i < 24; i++) {
      longest += " , " + (i + 10);
    }
    Tests.type(y, 0, longest + " )");
    T.same("TOKENS", 60, y.ofSession(0, 6));
    T.same("run", 0, y.run(0));
    T.same("of 60 TOKENS", longest + " )", y.made(3));
  }

  private static void waits() {
    T.promise(44, "Returns SESSIONS that WAIT, by when they began to, each as its number, \">\" and the numbers of those for which"
        + " it WAITS now with \",\" between, with one blank between; \"\" without.");
    Sessionstore x = plain();
    T.same("none", "", x.waits());
    x.begin(2, 0);
    run(x, 2, "update T0 set c1 = 1 where c0 = 0", 1);
    T.same("one that does not WAIT", "", x.waits());
    run(x, 3, "delete T0 where c0 = 0", -2);
    T.same("one", "3>2", x.waits());
    x.begin(1, 0);
    run(x, 1, "update T0 set c1 = 1 where c0 = 5", 1);
    run(x, 0, "update T0 set c1 = 2 where c0 < 6", -2);
    T.same("two, for one and for two", "3>2 0>1,2", x.waits());
    x.giveUp(3);
    run(x, 3, "delete T0 where c0 = 0", -2);
    T.same("began anew", "0>1,2 3>2", x.waits());
    x.rollback(1);
    T.same("for which it WAITS now", "0>2 3>2", x.waits());
  }

  private static void disc() {
    T.promise(45, "- `what`: 0 RECORDS, 1 how many are SAFE, 2 1 if the power is ON, otherwise 0, 3 1 if COMMITS are LAZY,"
        + " otherwise 0, 4 the last COMMIT number, 5 the last one whose RECORD is SAFE (all ahead of the last recovery are); 4 and"
        + " 5 are 0 where nothing was COMMITTED (while OFF: 0 and 1 as they were, 4 as 5)");
    Sessionstore x = plain();
    x.lazy(true);
    run(x, 0, "update T0 set c1 = 1", 3);
    String[] want = {"14 10 1 1 6 5 ", "14 10 0 1 5 5 ", "0 0 1 1 5 5 "};
    for (int i = 0; i < 3; i++) {
      String got = "";
      for (int what = 0; what < 6; what++) {
        got += x.disc(what) + " ";
      }
      T.same("disc", want[i], got);
      if (i == 0) {
        x.crash(false);
      } else if (i == 1) {
        x.recover(-1);
      }
    }
  }

  private static void house() {
    T.promise(46, "- `what`: 0 TABLES, 1 ROWS that are COMMITTED in all, 2 VERSIONS in all, 3 transactions that are open, 4"
        + " SESSIONS that WAIT, 5 how many were REFUSED, 6 the last number of a transaction (0 ahead of the first), 7 INDEXES in"
        + " all");
    Sessionstore x = plain();
    run(x, 0, "index T0 c1", 0);
    run(x, 0, "index T1 c1", 0);
    run(x, 0, "update T0 set c1 = 1 where c0 = 0", 1);
    x.begin(0, 0);
    x.begin(1, 1);
    run(x, 0, "delete T1", 2);
    run(x, 2, "delete T1 where c0 = 3", -2);
    x.knock();
    String got = "";
    for (int what = 0; what < 8; what++) {
      got += x.house(what) + " ";
    }
    T.same("house", "2 5 6 3 1 1 9 2 ", got);
  }

  private static void isSound() {
    T.promise(47, "Returns whether all of this is so (true while OFF): what is COMMITTED holds what always holds (section 1);");
    T.promise(47, "each INDEX tells what all ROWS tell; each query that is TYPED tells the same ROWS by the planner and by going"
        + " through all; what would be found behind a crash now, by what is on the disc, is what the SAFE COMMITS made; and no"
        + " ring of SESSIONS WAITS.");
    Sessionstore x = plain();
    run(x, 0, "index T0 c1", 0);
    x.lazy(true);
    x.begin(0, 2);
    run(x, 0, "select sum ( c1 ) from T0", 1);
    run(x, 0, "insert T0 select c0 + 1 , c1 from T0 where c0 < 9", 2);
    run(x, 0, "insert T0 values ( 1 , 1 )", -18);
    x.savepoint(0, 0);
    run(x, 0, "delete T0 where c0 = 1", 1);
    x.back(0, 0);
    run(x, 1, "update T0 set c1 = 5 where c0 = 19", -2);
    T.same("with one that WAITS", true, x.isSound());
    T.same("commit", 6, x.commit(0));
    T.same("behind it", true, x.isSound());
    Tests.type(x, 3, "select * from T0 join T1 on b c1 = a c0");
    T.same("with a query that is typed", true, x.isSound());
    x.vacuum();
    T.same("behind a vacuum", true, x.isSound());
    x.safe(3);
    T.same("some RECORDS SAFE", true, x.isSound());
    x.crash(true);
    T.same("while OFF", true, x.isSound());
    x.recover(2);
    T.same("behind it", true, x.isSound());
  }

  /** SERIAL transactions with others in between, and errors, savepoints and statements that were given up in them. */
  private static void lastSixSerials() {
    T.promise(47, "each of the last six SERIAL transactions that COMMITTED since the last recovery, create or drop, run alone on"
        + " what was COMMITTED just ahead of it, gives the same RESULTS and the same changes;");
    Sessionstore x = plain();
    for (int round = 0; round < 8; round++) {
      x.begin(0, 2);
      run(x, 0, "select c0 , c1 from T0 where c0 = 5", 1);
      run(x, 0, "insert T0 values ( 5 , 5 )", -18);
      run(x, 1, "update T0 set c1 = " + round + " where c0 = 19", 1);
      run(x, 1, "insert T0 values ( " + (7 + round) + " , 0 )", 1);
      run(x, 0, "update T0 set c1 = " + round + " where c0 = 5", 1);
      x.savepoint(0, 1);
      run(x, 0, "update T0 set c1 = 99 where c0 = 5", 1);
      x.back(0, 1);
      x.begin(2, 0);
      run(x, 2, "insert T0 values ( 18 , 0 )", 1);
      run(x, 0, "select count ( * ) from T0", -2);
      if (round % 2 == 0) {
        x.giveUp(0);
      }
      x.rollback(2);
      run(x, 0, "select", -11);
      run(x, 0, "create T2 ( c0 )", -14);
      T.same("commit", true, x.commit(0) > 0);
      T.same("sound in round " + round, true, x.isSound());
    }
    T.same("eight", 8, x.order().split(" ").length);
    x.begin(0, 2);
    run(x, 0, "insert T1 values ( 9 , null , null )", 1);
    x.rollback(0);
    x.begin(0, 2);
    run(x, 0, "insert T1 values ( 9 , 5 , null )", 1);
    run(x, 0, "select * from T1", 3);
    x.commit(0);
    T.same("behind one that was rolled back", true, x.isSound());
    run(x, 0, "create T2 ( c0 )", 0);
    T.same("behind a create", true, x.isSound());
    run(x, 0, "drop T1", 0);
    T.same("behind a drop", true, x.isSound());
    run(x, 0, "create T1 ( c0 )", 0);
    T.same("behind another create", true, x.isSound());
    x.crash(false);
    x.recover(-1);
    T.same("behind a recovery", true, x.isSound());
  }

  private static void digest() {
    T.promise(48, "A number d starts with 7602; then d becomes d * 31 + v, which wraps around as a 64-bit integer,");
    Sessionstore x = new Sessionstore();
    x.crash(false);
    long d = 7602;
    for (int v : new int[] {0, 0, 0, 0, 0, 0, 1}) {
      d = d * 31 + v;
    }
    T.same("while OFF", d, x.digest());
    x = plain();
    long before = x.digest();
    T.same("it changes nothing", before, x.digest());
    x.say(0, 0, -1, -1, -1, -1);
    T.same("TYPED tells on it", false, before == x.digest());
    x.wipe(0, 1);
    T.same("and again", before, x.digest());
    x.knock();
    T.same("who was REFUSED tells on it", false, before == x.digest());
  }
}
