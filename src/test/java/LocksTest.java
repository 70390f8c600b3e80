/** The sentences of section 4: transactions and their levels, locks, waits, rings, savepoints, results, ORDER. */
public final class LocksTest {
  private static final Tests T = new Tests("LocksTest");
  private static final int ALL = (1 << 20) - 1;

  public static void main(String[] args) {
    fourSessions();
    byItself();
    numbers();
    waitingKeepsIt();
    whatItSees();
    takenBackIsNotSeen();
    tillItEnds();
    whatGoesTogether();
    readsOfSerial();
    limitedReads();
    readsOfReferring();
    readsOfTheFirstTable();
    waitsForAll();
    writesOfTheSecondStep();
    readsOfTheSecondStep();
    alsoWithAnError();
    heldAndDone();
    locksWithAnError();
    conflict();
    conflictAtTheEdges();
    queriesHoldNone();
    waitingHoldsNone();
    goingOnInSequence();
    goingOnAnew();
    goingOnByOthers();
    ringOfTwo();
    greatestNumber();
    onlyWhoIsInRings();
    twoRings();
    levels();
    commitNumbers();
    goneWhereNoRowWas();
    rollback();
    savepoints();
    savepointSetAgain();
    savepointGone();
    takenBackTwice();
    results();
    placeIsGone();
    resultOfRollback();
    order();
    orderAndCrash();
    T.end();
  }

  /** T0 ( c0 , c1 ) with 1,10 2,20 3,30 and T1 ( c0 , c1 refs T0 ) without rows: by the transactions 1 to 3. */
  private static Sessionstore plain() {
    Sessionstore x = new Sessionstore();
    Tests.must(x, 0, "create T0 ( c0 , c1 )");
    Tests.must(x, 0, "create T1 ( c0 , c1 refs T0 )");
    Tests.must(x, 0, "insert T0 values ( 1 , 10 )");
    Tests.must(x, 0, "insert T0 values ( 2 , 20 )");
    Tests.must(x, 0, "insert T0 values ( 3 , 30 )");
    return x;
  }

  private static void run(Sessionstore x, int session, String text, int want) {
    T.same(session + ": " + text, want, Tests.run(x, session, text));
  }

  private static void set(Sessionstore x, int session, int key, int value, int want) {
    run(x, session, "update T0 set c1 = " + value + " where c0 = " + key, want);
  }

  private static int keys(int... keys) {
    int set = 0;
    for (int key : keys) {
      set |= 1 << key;
    }
    return set;
  }

  private static void fourSessions() {
    T.says("Four SESSIONS, 0 to 3.");
    Sessionstore x = plain();
    for (int session = 0; session < 4; session++) {
      T.same("begin", 4 + session, x.begin(session, session % 3));
      run(x, session, "select c0 from T1", 0);
    }
    T.same("open", 4, x.house(3));
    T.fails("session 4", Tests.OUT, x, () -> x.run(4));
    T.fails("session -1", Tests.OUT, x, () -> x.run(-1));
  }

  private static void byItself() {
    T.says("or with a statement that runs without one: at the LEVEL 0, and it COMMITS as the statement is done (with an ERROR"
        + " it is ROLLED BACK).");
    Sessionstore x = plain();
    set(x, 0, 1, 11, 1);
    T.same("committed", "1,11;2,20;3,30", x.table(0));
    T.same("none is open", 0, x.house(3));
    T.same("no locks", 0, x.locks(0, 0, true));
    run(x, 0, "insert T0 values ( 1 , 1 )", -18);
    T.same("rolled back", 0, x.house(3));
    T.same("no locks by the error", -1, x.writer(0, 1));
    x.begin(1, 0);
    set(x, 1, 2, 21, 1);
    set(x, 0, 2, 22, -2);
    T.same("at the LEVEL 0", 0, x.ofSession(0, 0));
    x.commit(1);
    T.same("committed as it was done", 22, x.cell(0, 2, 1));
    T.same("none is open then", 0, x.house(3));
    T.same("no level then", -1, x.ofSession(0, 0));
  }

  private static void numbers() {
    T.says("Transactions are numbered from 1 as they begin (a query or a statement with an ERROR 1 to 4 takes none by itself,"
        + " and create, drop, index take none).");
    Sessionstore x = new Sessionstore();
    run(x, 0, "create T0 ( c0 , c1 )", 0);
    run(x, 0, "create T1 ( c0 )", 0);
    run(x, 0, "index T0 c1", 0);
    run(x, 0, "drop T1", 0);
    run(x, 0, "select c0 from T0", 0);
    run(x, 0, "select c0 from", -11);
    run(x, 0, "delete T3", -12);
    run(x, 0, "insert T0 values ( 1 )", -13);
    run(x, 0, "create T0 ( c0 )", -14);
    T.same("none yet", 0, x.house(6));
    T.same("from 1", 1, x.begin(2, 2));
    run(x, 0, "insert T0 values ( 99 , 1 )", -15);
    T.same("an ERROR 5 takes one", 2, x.house(6));
    run(x, 0, "delete T0", 0);
    T.same("without ROWS as well", 3, x.house(6));
    run(x, 2, "insert T0 values ( 1 , 1 )", 1);
    T.same("none in a transaction", 3, x.house(6));
    x.rollback(2);
    T.same("as they begin", 4, x.begin(2, 0));
    T.same("its number", 4, x.ofSession(2, 2));
  }

  private static void waitingKeepsIt() {
    T.says("A statement that WAITS keeps the transaction.");
    Sessionstore x = plain();
    x.begin(0, 0);
    set(x, 0, 1, 11, 1);
    set(x, 1, 1, 12, -2);
    T.same("its own", 5, x.ofSession(1, 2));
    T.same("began", 3, x.ofSession(1, 3));
    x.begin(2, 1);
    set(x, 2, 1, 13, -2);
    T.same("one that there was", 6, x.ofSession(2, 2));
    T.same("open", 3, x.house(3));
    T.same("waiting", 2, x.house(4));
    T.fails("it has one", Tests.STATE, x, () -> x.begin(1, 0));
  }

  private static void whatItSees() {
    T.says("It sees that; else, at the LEVELS 0 and 2, what is COMMITTED now, at 1 what was COMMITTED as it began.");
    Sessionstore x = plain();
    for (int level = 0; level < 3; level++) {
      x.begin(level, level);
      run(x, level, "insert T0 values ( " + (5 + level) + " , 0 )", 1);
      run(x, level, "update T0 set c0 = 1" + level + " where c0 = " + (5 + level), 1);
    }
    set(x, 3, 1, 11, 1);
    run(x, 3, "delete T0 where c0 = 2", 1);
    run(x, 3, "insert T0 values ( 4 , 40 )", 1);
    T.same("LATEST", "1,11;3,30;4,40;10,0", x.seen(0, 0));
    T.same("SNAPSHOT", "1,10;2,20;3,30;11,0", x.seen(1, 0));
    T.same("SERIAL", "1,11;3,30;4,40;12,0", x.seen(2, 0));
    T.same("without one", "1,11;3,30;4,40", x.seen(3, 0));
    T.same("a query at 1", "1;2;3;11", Tests.ask(x, 1, "select c0 from T0"));
    T.same("a query within at 1", "2", Tests.ask(x, 1, "select c0 from T0 where c0 in ( select c1 / 10 from T0 where c0 = 2 )"));
    x.rollback(1);
    x.begin(1, 1);
    T.same("begun anew", "1,11;3,30;4,40", x.seen(1, 0));
  }

  private static void takenBackIsNotSeen() {
    T.says("What a transaction has changed: for each TABLE and KEY that it wrote (not taken back since) a ROW, or that it is"
        + " GONE.");
    Sessionstore x = plain();
    x.begin(0, 0);
    x.savepoint(0, 0);
    run(x, 0, "delete T0 where c0 = 1", 1);
    run(x, 0, "insert T1 values ( 9 , 2 )", 1);
    T.same("changed", 2, x.ofSession(0, 4));
    T.same("seen", "2,20;3,30", x.seen(0, 0));
    T.same("GONE is changed", keys(1), x.changed(0, 0));
    T.same("a ROW is changed", keys(9), x.changed(0, 1));
    x.back(0, 0);
    T.same("taken back", 0, x.ofSession(0, 4));
    T.same("seen again", "1,10;2,20;3,30", x.seen(0, 0));
    T.same("nothing of T1", "", x.seen(0, 1));
    run(x, 0, "insert T0 values ( 9 , 9 )", 1);
    run(x, 0, "delete T0 where c0 = 9", 1);
    T.same("also one that is put in and deleted in it", keys(9), x.changed(0, 0));
  }

  private static void tillItEnds() {
    T.says("A transaction holds READ and WRITE locks on KEYS of TABLES, till it ends.");
    for (int end = 0; end < 3; end++) {
      Sessionstore x = plain();
      x.begin(0, 2);
      x.savepoint(0, 0);
      run(x, 0, "update T0 set c1 = 0 where c0 = 1", 1);
      run(x, 0, "insert T1 values ( 5 , 2 )", 1);
      x.back(0, 0);
      T.same("reads of T0", keys(1, 2), x.locks(0, 0, false));
      T.same("writes of T0", keys(1), x.locks(0, 0, true));
      T.same("writes of T1", keys(5), x.locks(0, 1, true));
      T.same("writer", 0, x.writer(1, 5));
      if (end == 0) {
        x.commit(0);
      } else if (end == 1) {
        x.rollback(0);
      } else {
        x.crash(false);
        x.recover(-1);
      }
      for (int t = 0; t < 4; t++) {
        T.same("none is left", 0, x.locks(0, t, false) | x.locks(0, t, true));
      }
      T.same("no writer", -1, x.writer(1, 5));
    }
  }

  private static void whatGoesTogether() {
    T.says("A READ and a WRITE lock, or two WRITE ones, of two transactions on the same KEY do not go together.");
    Sessionstore x = plain();
    x.begin(0, 2);
    run(x, 0, "select c0 from T0 where c0 = 1", 1);
    x.begin(1, 2);
    run(x, 1, "select c0 from T0 where c0 <= 2", 2);
    T.same("two READ ones do", keys(1), x.locks(0, 0, false) & x.locks(1, 0, false));
    set(x, 2, 1, 0, -2);
    T.same("a WRITE lock waits for both READ ones", "2>0,1", x.waits());
    x.giveUp(2);
    set(x, 2, 3, 31, 1);
    set(x, 2, 2, 21, -2);
    x.giveUp(2);
    set(x, 0, 3, 32, 1);
    x.begin(2, 2);
    run(x, 2, "select c0 from T0 where c0 = 3", -2);
    T.same("a READ lock waits for the WRITE one", "2>0", x.waits());
    set(x, 3, 3, 33, -2);
    T.same("two WRITE ones", "2>0 3>0", x.waits());
    Sessionstore y = plain();
    y.begin(0, 2);
    run(y, 0, "select c0 from T0 where c0 = 1", 1);
    set(y, 0, 1, 11, 1);
    set(y, 0, 1, 12, 1);
    run(y, 0, "select c0 from T0 where c0 = 1", 1);
    T.same("its own ones do", keys(1), y.locks(0, 0, false) & y.locks(0, 0, true));
    set(y, 1, 2, 21, 1);
    run(y, 1, "insert T1 values ( 1 , null )", 1);
    T.same("another KEY does, and another TABLE", "", y.waits());
    run(y, 1, "insert T1 values ( 2 , 1 )", -2);
    T.same("a KEY of this one by a reference does not", "1>0", y.waits());
  }

  private static void reads(String text, int t0, int t1, int t2) {
    Sessionstore x = new Sessionstore();
    Tests.must(x, 0, "create T0 ( c0 , c1 )");
    Tests.must(x, 0, "create T1 ( c0 , c1 refs T0 )");
    Tests.must(x, 0, "create T2 ( c0 , c1 )");
    Tests.must(x, 0, "insert T0 values ( 3 , 1 )");
    Tests.must(x, 0, "insert T2 values ( 4 , 1 )");
    int[] want = {t0, t1, t2};
    x.begin(0, 2);
    T.same(text, true, Tests.run(x, 0, text) >= 0);
    for (int t = 0; t < 3; t++) {
      T.same(text + " reads of T" + t, want[t], x.locks(0, t, false));
    }
    for (int level = 0; level < 2; level++) {
      x.rollback(0);
      x.begin(0, level);
      Tests.run(x, 0, text);
      int all = 0;
      for (int t = 0; t < 3; t++) {
        all |= x.locks(0, t, false);
      }
      T.same(text + " reads at " + level, 0, all);
    }
  }

  private static void readsOfSerial() {
    T.says("First, at the LEVEL 2: READ locks on all KEYS of all SOURCES of all its queries, and of the TABLE of update and"
        + " delete;");
    reads("select c0 from T0", ALL, 0, 0);
    reads("select c0 from T0 join T2 on b c0 = 1", ALL, 0, ALL);
    reads("select c0 from T0 left T1 on b c0 = 1 join T2 on 1 = 2", ALL, ALL, ALL);
    reads("select c0 from T0 where c0 = 1 and exists ( select c0 from T2 where c0 = 1 )", keys(1), 0, ALL);
    reads("select ( select c0 from T2 join T1 on 1 = 2 where c0 = 5 ) from T0 limit 0", ALL, ALL, ALL);
    reads("select 1 from T2 where c0 = 5 having exists ( select 1 from T0 where c0 = 1 )", ALL, 0, keys(5));
    reads("insert T2 values ( 1 , 1 )", 0, 0, 0);
    reads("insert T2 select c0 , 1 from T0 where 1 = 2", ALL, 0, 0);
    reads("update T2 set c1 = 5", 0, 0, ALL);
    reads("update T2 set c1 = ( select c1 from T0 where c0 = 2 ) where c0 = 7", ALL, 0, keys(7));
    reads("update T2 set c1 = ( select max ( c0 ) from T2 ) where c0 = 7", 0, 0, ALL);
    reads("update T2 set c1 = ( select max ( c0 ) from T2 where c0 = 7 ) where c0 = 7", 0, 0, ALL);
    reads("delete T2 where c0 = 7 and exists ( select 1 from T2 where c0 = 7 )", 0, 0, ALL);
    reads("delete T2", 0, 0, ALL);
    reads("delete T2 where c0 in ( select c0 from T1 )", 0, ALL, ALL);
  }

  private static void limitedReads() {
    T.says("but of the first SOURCE of the outermost query (that of select, or insert), and of update's and delete's TABLE,"
        + " only on KEYS k for which all those parts of where (if it is a row of parts with and between, or one part) are"
        + " TRUE that are just \"c0\" or \"a c0\", =, <>, <, <=, > or >=, and a NUMBER;");
    reads("select 1 from T0 where c0 = 0", keys(0), 0, 0);
    reads("select 1 from T0 where a c0 = 19", keys(19), 0, 0);
    reads("select 1 from T0 where c0 = 20", 0, 0, 0);
    reads("select 1 from T0 where c0 <> 19", ALL & ~keys(19), 0, 0);
    reads("select 1 from T0 where c0 <> 20", ALL, 0, 0);
    reads("select 1 from T0 where c0 < 2", keys(0, 1), 0, 0);
    reads("select 1 from T0 where c0 < 0", 0, 0, 0);
    reads("select 1 from T0 where c0 <= 1", keys(0, 1), 0, 0);
    reads("select 1 from T0 where c0 > 17", keys(18, 19), 0, 0);
    reads("select 1 from T0 where c0 > 99", 0, 0, 0);
    reads("select 1 from T0 where c0 >= 18", keys(18, 19), 0, 0);
    reads("select 1 from T0 where c0 >= 0", ALL, 0, 0);
    reads("select 1 from T0 where c0 > 4 and a c0 < 8 and c0 <> 6", keys(5, 7), 0, 0);
    reads("select 1 from T0 where c0 = 4 and c0 = 5", 0, 0, 0);
    reads("select 1 from T0 where c1 = 4 and c0 = 5 and 1 = 2", keys(5), 0, 0);
    reads("select 1 from T0 join T0 on 1 = 1 where c0 = 5", ALL, 0, 0);
    reads("select 1 from T0 join T2 on b c0 = 5 where b c0 = 5 and c0 = 1", keys(1), 0, ALL);
    reads("insert T2 select c0 , 1 from T0 where c0 = 5", keys(5), 0, 0);
    reads("update T2 set c1 = 5 where c0 = 5 and c1 = 1", 0, 0, keys(5));
    reads("update T2 set c1 = 5 where a c0 < 1", 0, 0, keys(0));
    reads("delete T2 where c0 > 18", 0, 0, keys(19));
    reads("select 1 from T2 where c0 = 1 and c1 in ( select 1 from T2 where c0 = 2 )", 0, 0, ALL);
    T.says("other parts (in \"[\", with not, the NUMBER ahead) limit nothing.");
    reads("select 1 from T0 where [ c0 = 5 ]", ALL, 0, 0);
    reads("select 1 from T0 where [ c0 = 5 and c0 = 5 ]", ALL, 0, 0);
    reads("select 1 from T0 where [ c0 = 5 ] and c0 < 7 and [ c0 = 3 ]", keys(0, 1, 2, 3, 4, 5, 6), 0, 0);
    reads("select 1 from T0 where not c0 = 5", ALL, 0, 0);
    reads("select 1 from T0 where not c0 = 5 and c0 < 2", keys(0, 1), 0, 0);
    reads("select 1 from T0 where 5 = c0", ALL, 0, 0);
    reads("select 1 from T0 where c0 = 5 or c0 = 5", ALL, 0, 0);
    reads("select 1 from T0 where c0 = 5 and c0 = 5 or c0 = 5", ALL, 0, 0);
    reads("select 1 from T0 where c0 = 5 or c0 = 5 and c0 = 5", ALL, 0, 0);
    reads("select 1 from T0 where c0 = 5 + 0", ALL, 0, 0);
    reads("select 1 from T0 where c0 + 0 = 5", ALL, 0, 0);
    reads("select 1 from T0 where c0 = - 5", ALL, 0, 0);
    reads("select 1 from T0 where c0 = ( 5 )", ALL, 0, 0);
    reads("select 1 from T0 where ( c0 ) = 5", ALL, 0, 0);
    reads("select 1 from T0 where - c0 = 5", ALL, 0, 0);
    reads("select 1 from T0 where c0 = null", ALL, 0, 0);
    reads("select 1 from T0 where c0 = c0", ALL, 0, 0);
    reads("select 1 from T0 where c0 is null", ALL, 0, 0);
    reads("select 1 from T0 where c0 in ( 5 )", ALL, 0, 0);
    reads("select 1 from T0 where c1 = 5", ALL, 0, 0);
    reads("select 1 from T0 join T2 on c0 = 5 where b c0 = 5", ALL, 0, ALL);
    reads("select 1 from T0 having 1 = 5", ALL, 0, 0);
  }

  private static void readsOfReferring() {
    T.says("And for delete, and update with c0 behind set: READ locks on all KEYS of all TABLES that REFER to that one.");
    reads("delete T0 where c0 = 2", keys(2), ALL, 0);
    reads("delete T0 where c0 = 2 and 1 = 2", keys(2), ALL, 0);
    reads("update T0 set c0 = c0 where c0 = 2", keys(2), ALL, 0);
    reads("update T0 set c1 = 1 , c0 = 5 where c0 = 2", keys(2), ALL, 0);
    reads("update T0 set c0 = 5 , c1 = 1 where c0 = 2", keys(2), ALL, 0);
    reads("update T0 set c1 = c0 where c0 = 2", keys(2), 0, 0);
    reads("delete T1 where c0 = 2", 0, keys(2), 0);
    reads("delete T2 where c0 = 2", 0, 0, keys(2));
    reads("insert T0 values ( 5 , 5 )", 0, 0, 0);
    Sessionstore x = plain();
    Tests.must(x, 0, "create T2 ( c0 refs T0 , c1 refs T1 )");
    x.begin(0, 2);
    run(x, 0, "delete T0 where c0 = 3", 1);
    T.same("of each that refers", ALL + " " + ALL, x.locks(0, 1, false) + " " + x.locks(0, 2, false));
    x.begin(1, 2);
    run(x, 1, "delete T1 where c0 = 3", 0);
    T.same("not of the one that refers to another", keys(3) + " " + ALL, x.locks(1, 1, false) + " " + x.locks(1, 2, false));
    x.begin(2, 0);
    run(x, 2, "insert T1 values ( 7 , null )", -2);
    T.same("waits for who reads all of T1, not for who reads another KEY of it", "2>0", x.waits());
  }

  /** T3 with 0 and 5, to which T0 refers: 0,0 and 1,5. */
  private static Sessionstore byTheFirst() {
    Sessionstore x = new Sessionstore();
    Tests.must(x, 0, "create T3 ( c0 , c1 )");
    Tests.must(x, 0, "create T0 ( c0 , c1 refs T3 )");
    Tests.must(x, 0, "insert T3 values ( 0 , 0 )");
    Tests.must(x, 0, "insert T3 values ( 5 , 0 )");
    Tests.must(x, 0, "insert T0 values ( 0 , 0 )");
    Tests.must(x, 0, "insert T0 values ( 1 , 5 )");
    return x;
  }

  private static void readsOfTheFirstTable() {
    T.says("READ locks on all KEYS of all TABLES that REFER to that one.");
    Sessionstore x = byTheFirst();
    x.begin(0, 2);
    run(x, 0, "delete T3 where c0 = 9", 0);
    T.same("T0 refers to T3", ALL, x.locks(0, 0, false));
    x.rollback(0);
    x.begin(0, 2);
    run(x, 0, "delete T0 where c0 = 0", 1);
    T.same("T3 does not refer to T0", 0, x.locks(0, 3, false));
    x.rollback(0);
    x.begin(0, 0);
    run(x, 0, "insert T0 values ( 19 , 0 )", 1);
    T.same("the KEY 0 to which it refers", 1, x.locks(0, 3, false));
    T.same("the KEY 19 that it writes", keys(19), x.locks(0, 0, true));
    run(x, 1, "update T3 set c1 = 1 where c0 = 0", -2);
    T.same("waits", "1>0", x.waits());
  }

  private static void waitsForAll() {
    T.says("If one of these does not go together with what others hold, it WAITS for all who hold such.");
    Sessionstore x = plain();
    x.begin(0, 0);
    x.begin(1, 1);
    x.begin(2, 2);
    set(x, 0, 1, 11, 1);
    set(x, 1, 3, 31, 1);
    run(x, 2, "select c0 from T0 where c0 >= 2", -2);
    T.same("for the one", "2>1", x.waits());
    x.giveUp(2);
    run(x, 2, "select c0 from T0", -2);
    T.same("for both", "2>0,1", x.waits());
    T.same("as a set", 3, x.ofSession(2, 7));
    x.commit(0);
    T.same("for the other", "2>1", x.waits());
    T.same("as a set", 2, x.ofSession(2, 7));
    x.rollback(1);
    T.same("for none", "", x.waits());
    T.same("done", "1;2;3", x.answer(2));
    Sessionstore y = plain();
    y.begin(0, 0);
    y.begin(1, 0);
    set(y, 0, 1, 11, 1);
    run(y, 1, "insert T1 values ( 9 , null )", 1);
    y.begin(2, 2);
    run(y, 2, "delete T0 where c0 = 1", -2);
    T.same("the first step looks at READ locks alone, of all TABLES", "2>0,1", y.waits());
    y.commit(1);
    T.same("the second step is not reached", "2>0", y.waits());
  }

  private static void writesOfTheSecondStep() {
    T.says("Then it is seen which KEYS (0 to 19) it would write (also if an ERROR will come): old and new ones of all its"
        + " ROWS; it needs WRITE locks on them;");
    Sessionstore x = plain();
    x.begin(0, 0);
    run(x, 0, "insert T0 values ( 0 , 0 )", 1);
    T.same("the new one of an insert", keys(0), x.locks(0, 0, true));
    run(x, 0, "insert T0 select c0 + 16 , c1 from T0 where c0 > 1", 2);
    T.same("of all its ROWS", keys(0, 18, 19), x.locks(0, 0, true));
    run(x, 0, "update T0 set c0 = c0 + 3 where c0 = 1", 1);
    T.same("old and new ones", keys(0, 1, 4, 18, 19), x.locks(0, 0, true));
    run(x, 0, "delete T0 where c0 = 2", 1);
    T.same("the old one of a delete", keys(0, 1, 2, 4, 18, 19), x.locks(0, 0, true));
    run(x, 0, "delete T0 where c0 = 17", 0);
    run(x, 0, "update T0 set c1 = 1 where c0 = 1", 0);
    T.same("none without ROWS", keys(0, 1, 2, 4, 18, 19), x.locks(0, 0, true));
    T.same("no READ ones", 0, x.locks(0, 0, false));
  }

  private static void readsOfTheSecondStep() {
    T.says("and READ locks on the KEYS (0 to 19) to which VALUES of new or changed ROWS REFER (in the TABLES to which these"
        + " COLUMNS do). If one of these does not go together, it WAITS for all who hold such.");
    Sessionstore x = plain();
    Tests.must(x, 0, "create T2 ( c0 refs T1 , c1 refs T0 , c2 refs T0 )");
    Tests.must(x, 0, "insert T1 values ( 7 , 2 )");
    x.begin(0, 0);
    run(x, 0, "insert T2 values ( 7 , 1 , 3 )", 1);
    T.same("of each COLUMN", keys(1, 3) + " " + keys(7), x.locks(0, 0, false) + " " + x.locks(0, 1, false));
    run(x, 0, "update T2 set c1 = null", 1);
    T.same("of changed ROWS, also where they stay", keys(1, 3), x.locks(0, 0, false));
    run(x, 0, "update T1 set c0 = c0", 1);
    T.same("of T1's ROW", keys(1, 2, 3), x.locks(0, 0, false));
    run(x, 0, "delete T2", 1);
    T.same("none of ROWS that go", keys(1, 2, 3), x.locks(0, 0, false));
    run(x, 1, "delete T0 where c0 = 2", -2);
    T.same("for who reads it", "1>0", x.waits());
    x.giveUp(1);
    x.begin(2, 0);
    run(x, 2, "insert T1 values ( 9 , 2 )", 1);
    run(x, 1, "delete T0 where c0 = 2", -2);
    T.same("for all who read it", "1>0,2", x.waits());
    x.commit(0);
    x.commit(2);
    T.same("REFERRED to by then", 10, x.result(1, 3));
    x.begin(0, 0);
    run(x, 0, "update T0 set c0 = 5 where c0 = 1", 1);
    run(x, 1, "insert T1 values ( 10 , 5 )", -2);
    T.same("a READ lock waits for a WRITE one", "1>0", x.waits());
    x.rollback(0);
    T.same("no ROW there then", 10, x.result(1, 3));
  }

  private static void alsoWithAnError() {
    T.says("(also if an ERROR will come)");
    Sessionstore x = plain();
    x.begin(0, 0);
    set(x, 0, 1, 11, 1);
    run(x, 0, "insert T1 values ( 4 , null )", 1);
    run(x, 1, "insert T0 values ( 1 , 1 )", -2);
    x.giveUp(1);
    run(x, 1, "update T0 set c0 = c0 + 18", -2);
    x.giveUp(1);
    run(x, 1, "insert T1 values ( 99 , 1 )", -2);
    T.same("for a KEY to which it refers, with a KEY beyond", "1>0", x.waits());
    x.commit(0);
    T.same("then it is KEYED", 5, x.result(1, 3));
    x.begin(0, 2);
    run(x, 0, "insert T0 values ( 99 , 1 )", -15);
    T.same("no KEY beyond 19 is locked", 0, x.locks(0, 0, true));
    run(x, 0, "update T0 set c0 = c0 + 18", -15);
    T.same("old and new ones up to 19", keys(1, 2, 3, 19), x.locks(0, 0, true));
    run(x, 0, "insert T1 values ( 5 , 50 )", -20);
    T.same("no READ beyond 19", ALL, x.locks(0, 0, false));
    T.same("the KEY", keys(5), x.locks(0, 1, true));
  }

  private static void heldAndDone() {
    T.says("To run a statement without an ERROR 1 to 4:");
    T.says("Otherwise all these locks are held, and it is done.");
    Sessionstore x = plain();
    x.begin(0, 2);
    run(x, 0, "update T0 set c0 = 9 where c0 = 3", 1);
    T.same("of the first step", keys(3) + " " + ALL, x.locks(0, 0, false) + " " + x.locks(0, 1, false));
    T.same("of the second step", keys(3, 9), x.locks(0, 0, true));
    T.same("done", "1,10;2,20;9,30", x.seen(0, 0));
    run(x, 0, "insert T1 values ( 0 , 9 )", 1);
    T.same("to which it REFERS", keys(3, 9), x.locks(0, 0, false));
    T.same("its KEY", keys(0), x.locks(0, 1, true));
    x.begin(1, 2);
    run(x, 1, "select c0 from T3", -12);
    run(x, 1, "select * from T0 where c0 = 3 group c0", -13);
    run(x, 1, "select * from T0 where c0 = 3 group", -11);
    T.same("none waits with an ERROR 1 to 3, whatever is held", "", x.waits());
    T.same("nor holds one", 0, x.locks(1, 0, false));
  }

  private static void locksWithAnError() {
    T.says("With an ERROR, at the LEVELS 0 and 1, no lock is held by it (at 2 all of both steps stay).");
    String[] texts = {"insert T0 values ( 1 , 1 )", "insert T1 values ( 5 , 9 )", "update T0 set c0 = 2 where c0 = 1"};
    int[] codes = {-18, -20, -18};
    int[] reads0 = {0, keys(9), keys(1)};
    int[] reads1 = {0, 0, ALL};
    int[] writes0 = {keys(1), 0, keys(1, 2)};
    int[] writes1 = {0, keys(5), 0};
    for (int level = 0; level < 3; level++) {
      for (int i = 0; i < texts.length; i++) {
        Sessionstore x = plain();
        int stays = level == 2 ? 1 : 0;
        x.begin(0, level);
        run(x, 0, texts[i], codes[i]);
        String what = texts[i] + " at " + level;
        T.same(what + ": reads of T0", stays * reads0[i], x.locks(0, 0, false));
        T.same(what + ": reads of T1", stays * reads1[i], x.locks(0, 1, false));
        T.same(what + ": writes of T0", stays * writes0[i], x.locks(0, 0, true));
        T.same(what + ": writes of T1", stays * writes1[i], x.locks(0, 1, true));
        T.same(what + ": the transaction stays", level, x.ofSession(0, 0));
      }
      Sessionstore x = plain();
      x.begin(0, level);
      set(x, 0, 1, 11, 1);
      run(x, 0, "insert T0 values ( 1 , 1 )", -18);
      T.same("what was held ahead stays", keys(1), x.locks(0, 0, true));
      run(x, 0, "select c0 from", -11);
      run(x, 0, "select c0 from T3", -12);
      run(x, 0, "drop T1", -14);
      T.same("an ERROR 1 to 4 takes none", level == 2 ? keys(1) : 0, x.locks(0, 0, false));
    }
  }

  private static void conflict() {
    T.says("9 CONFLICT: at the LEVEL 1, if one of the KEYS that it would write was COMMITTED since the transaction began (by"
        + " another one); then the whole transaction is ROLLED BACK.");
    String[] ofOthers = {"update T0 set c1 = c1 where c0 = 2", "delete T0 where c0 = 2", "update T0 set c0 = 9 where c0 = 2"};
    for (String other : ofOthers) {
      for (int level = 0; level < 3; level++) {
        Sessionstore x = plain();
        x.begin(0, level);
        set(x, 0, 1, 11, 1);
        run(x, 1, other, 1);
        int records = x.disc(0);
        boolean isThere = other.endsWith("c1 where c0 = 2");
        set(x, 0, 2, 22, level == 1 ? -19 : isThere ? 1 : 0);
        T.same("rolled back at 1 alone", level == 1 ? -1 : level, x.ofSession(0, 0));
        T.same("what it changed is taken back", level == 1 ? records + 1 : isThere ? records + 1 : records, x.disc(0));
        T.same("its locks are let go", level == 1 ? -1 : 0, x.writer(0, 1));
      }
    }
    Sessionstore x = plain();
    x.begin(0, 1);
    run(x, 1, "insert T0 values ( 5 , 5 )", 1);
    run(x, 1, "update T0 set c1 = 1 where c0 = 1", 1);
    set(x, 0, 2, 22, 1);
    set(x, 0, 2, 23, 1);
    run(x, 0, "update T0 set c1 = 0 where c0 = 5", 0);
    run(x, 0, "update T0 set c1 = c1 where c0 > 1", 2);
    run(x, 0, "select c1 from T0", 3);
    T.same("what it does not write does not matter", "10;23;30", x.answer(0));
    run(x, 0, "insert T0 values ( 5 , 6 )", -19);
    T.same("its place", -1, x.result(0, 4));
    set(x, 1, 2, 24, 1);
    x.begin(0, 1);
    set(x, 0, 2, 25, 1);
    T.same("ahead of its beginning it does not matter", 1, x.ofSession(0, 0));
    x.begin(2, 1);
    x.begin(1, 0);
    run(x, 1, "insert T0 values ( 8 , 8 )", 1);
    run(x, 1, "delete T0 where c0 = 8", 1);
    run(x, 2, "insert T0 values ( 8 , 8 )", -2);
    T.same("without a number", 0, x.commit(1));
    T.same("GONE where no ROW was is no COMMIT of that KEY", 1, x.result(2, 0));
  }

  private static void conflictAtTheEdges() {
    T.says("if one of the KEYS that it would write was COMMITTED since the transaction began (by another one);");
    for (int key : new int[] {0, 19}) {
      Sessionstore x = new Sessionstore();
      Tests.must(x, 0, "create T0 ( c0 , c1 )");
      T.same("the first transaction of all", 1, x.begin(0, 1));
      run(x, 1, "insert T0 values ( " + key + " , 1 )", 1);
      T.same("it sees none", "", x.seen(0, 0));
      T.same("nor does a query", 0, Tests.run(x, 0, "select * from T0"));
      T.same("LOW", 0, x.low());
      T.same("vacuum", 0, x.vacuum());
      run(x, 0, "insert T0 values ( 7 , 7 )", 1);
      T.same("another KEY does not matter", 1, x.ofSession(0, 0));
      run(x, 0, "insert T0 values ( " + key + " , 2 )", -19);
      T.same("the KEY " + key, key + ",1", x.table(0));
    }
    Sessionstore x = plain();
    run(x, 0, "insert T0 values ( 9 , 9 )", 1);
    run(x, 0, "delete T0 where c0 = 9", 1);
    run(x, 0, "insert T0 values ( 8 , 8 )", 1);
    x.crash(false);
    x.recover(-1);
    x.begin(0, 1);
    for (int k = 10; k < 19; k++) {
      run(x, 1, "insert T0 values ( " + k + " , 0 )", 1);
    }
    run(x, 0, "insert T0 values ( 9 , 1 )", 1);
    T.same("a KEY that was COMMITTED ahead of a crash alone", 1, x.ofSession(0, 0));
    run(x, 0, "update T0 set c1 = 1 where c0 = 8", 1);
    T.same("one that was found again", 1, x.ofSession(0, 0));
    run(x, 0, "insert T0 values ( 10 , 1 )", -19);
  }

  private static void queriesHoldNone() {
    T.says("Queries at the LEVELS 0 and 1 hold no locks.");
    Sessionstore x = plain();
    x.begin(3, 0);
    set(x, 3, 1, 11, 1);
    for (int level = 0; level < 2; level++) {
      x.begin(level, level);
      run(x, level, "select c0 from T0 where exists ( select c0 from T0 )", 3);
      T.same("none", 0, x.locks(level, 0, false) | x.locks(level, 0, true));
    }
    run(x, 2, "select c1 from T0", 3);
    T.same("nor do they wait", "10;20;30", x.answer(2));
    run(x, 2, "insert T1 select c0 , null from T0", 3);
  }

  private static void waitingHoldsNone() {
    T.says("A statement that WAITS holds no lock for itself, and has done nothing.");
    Sessionstore x = plain();
    x.begin(0, 0);
    set(x, 0, 1, 11, 1);
    x.begin(1, 2);
    run(x, 1, "select c0 from T0 where c0 = 3", 1);
    run(x, 1, "update T0 set c1 = 0", -2);
    T.same("what it held ahead", keys(3), x.locks(1, 0, false));
    T.same("no WRITE lock", 0, x.locks(1, 0, true));
    T.same("nothing is changed", 0, x.ofSession(1, 4));
    T.same("the result", "4 0 0 0 -1", x.result(1, 0) + " " + x.result(1, 1) + " " + x.result(1, 2) + " " + x.result(1, 3)
        + " " + x.result(1, 4));
    set(x, 2, 2, 21, 1);
    T.same("another one goes ahead of it", 21, x.cell(0, 2, 1));
  }

  private static void goingOnInSequence() {
    T.says("GOING ON: whenever locks were let go, and whenever a session began to WAIT, then, as long as there is a session"
        + " that WAITS and now would not, the one that began to WAIT first does its statement (at that moment anew; then"
        + " again from the first one on).");
    Sessionstore x = plain();
    x.begin(0, 0);
    set(x, 0, 1, 0, 1);
    run(x, 3, "update T0 set c1 = c1 + 1 where c0 = 1", -2);
    run(x, 1, "update T0 set c1 = c1 * 2 where c0 = 1", -2);
    run(x, 2, "update T0 set c1 = c1 - 5 where c0 = 1", -2);
    T.same("by when they began", "3>0 1>0 2>0", x.waits());
    T.same("commit", 4, x.commit(0));
    T.same("one behind the other", "1:1,10 4:1,0 5:1,1 6:1,2 7:1,-3", x.versions(0, 1));
    T.same("none waits", 0, x.house(4));
    x.begin(0, 0);
    set(x, 0, 1, 0, 1);
    x.begin(2, 0);
    set(x, 2, 1, 5, -2);
    set(x, 1, 1, 7, -2);
    x.rollback(0);
    T.same("the first holds it then", "1>2", x.waits());
    T.same("the first is done", 1, x.result(2, 0));
    x.commit(2);
    T.same("then the other", 7, x.cell(0, 1, 1));
  }

  private static void goingOnAnew() {
    T.says("(at that moment anew; then again from the first one on)");
    Sessionstore x = plain();
    x.begin(0, 0);
    set(x, 0, 1, 50, 1);
    run(x, 1, "delete T0 where c1 < 25", -2);
    T.same("for what it would change as it sees it", "1>0", x.waits());
    x.commit(0);
    T.same("anew", "1,50;3,30", x.table(0));
    T.same("how many by then", 1, x.result(1, 1));
    Sessionstore y = plain();
    y.begin(0, 0);
    y.begin(1, 0);
    set(y, 0, 1, 11, 1);
    set(y, 1, 2, 21, 1);
    run(y, 2, "update T0 set c1 = c1 + 1 where c0 <= 2", -2);
    run(y, 3, "update T0 set c1 = c1 * 2 where c0 = 1", -2);
    T.same("both wait", "2>0,1 3>0", y.waits());
    y.commit(0);
    T.same("the first waits still, the other one is done", "2>1", y.waits());
    T.same("done", 22, y.cell(0, 1, 1));
    y.commit(1);
    T.same("then the first", "1,23;2,22;3,30", y.table(0));
  }

  private static void goingOnByOthers() {
    T.says("whenever locks were let go,");
    for (int way = 0; way < 4; way++) {
      Sessionstore x = plain();
      x.begin(0, 1);
      set(x, 0, 1, 11, 1);
      set(x, 1, 1, 12, -2);
      set(x, 2, 2, 21, 1);
      T.same("waits", "1>0", x.waits());
      if (way == 0) {
        x.commit(0);
      } else if (way == 1) {
        x.rollback(0);
      } else if (way == 2) {
        set(x, 0, 2, 22, -19);
      } else {
        x.begin(3, 0);
        set(x, 3, 3, 31, 1);
        set(x, 0, 3, 32, -2);
        x.giveUp(0);
        T.same("a transaction that stays holds its locks", "1>0", x.waits());
        set(x, 0, 3, 32, -2);
        x.rollback(0);
      }
      T.same("went on", "", x.waits());
      T.same("done", 12, x.cell(0, 1, 1));
    }
    Sessionstore x = plain();
    x.begin(0, 0);
    set(x, 0, 1, 11, 1);
    x.begin(1, 0);
    set(x, 1, 2, 21, 1);
    set(x, 2, 2, 22, -2);
    set(x, 1, 1, 12, -2);
    T.same("the own one of a statement is rolled back as it is given up", 5, x.giveUp(1));
    T.same("still held", "2>1", x.waits());
    x.rollback(1);
    T.same("done", 22, x.cell(0, 2, 1));
  }

  private static void ringOfTwo() {
    T.says("Then, if sessions WAIT for each other in a ring (each for who it would have to WAIT for now), of all that are in"
        + " such rings the one whose transaction has the greatest number GIVES WAY: it is ROLLED BACK, its statement has the"
        + " ERROR 11 RING; then GOING ON again.");
    Sessionstore x = plain();
    x.begin(2, 0);
    x.begin(1, 0);
    set(x, 1, 1, 11, 1);
    set(x, 2, 2, 22, 1);
    int records = x.disc(0);
    set(x, 1, 2, 12, -2);
    T.same("no ring yet", "1>2", x.waits());
    set(x, 2, 1, 21, 1);
    T.same("RING", "3 0 0 11 -1", x.result(1, 0) + " " + x.result(1, 1) + " " + x.result(1, 2) + " " + x.result(1, 3) + " "
        + x.result(1, 4));
    T.same("rolled back", 0, x.ofSession(1, 2));
    T.same("its change is taken back, the other one's is done", records + 2, x.disc(0));
    T.same("went on", keys(1, 2), x.changed(2, 0));
    T.same("none waits", "", x.waits());
    x.commit(2);
    T.same("rows", "1,21;2,22;3,30", x.table(0));
  }

  private static void greatestNumber() {
    T.says("the one whose transaction has the greatest number GIVES WAY");
    for (int first = 0; first < 2; first++) {
      for (int begins = 0; begins < 2; begins++) {
        Sessionstore x = plain();
        x.begin(begins, 0);
        x.begin(1 - begins, 2);
        int last = 1 - begins;
        set(x, 0, 1, 11, 1);
        set(x, 1, 2, 21, 1);
        int other = 1 - first;
        set(x, first, first == 0 ? 2 : 1, 5, -2);
        set(x, other, other == 0 ? 2 : 1, 6, other == last ? -21 : 1);
        T.same("who gave way", 11, x.result(last, 3));
        T.same("who went on", 1, x.result(1 - last, 0));
      }
    }
  }

  private static void onlyWhoIsInRings() {
    T.says("of all that are in such rings");
    Sessionstore x = plain();
    x.begin(0, 0);
    x.begin(1, 0);
    set(x, 0, 1, 11, 1);
    set(x, 1, 2, 21, 1);
    set(x, 3, 1, 13, -2);
    T.same("the greatest number of all waits for a ring, and is not in it", 6, x.ofSession(3, 2));
    set(x, 0, 2, 12, -2);
    set(x, 1, 1, 22, -21);
    T.same("it waits still", "3>0", x.waits());
    T.same("who went on", 1, x.result(0, 0));
    x.rollback(0);
    T.same("then it is done", 13, x.cell(0, 1, 1));
    for (int out = 0; out < 4; out++) {
      greatestIsOut(out);
    }
  }

  /** A ring of two, and the greatest number is that of a session that is not in it. */
  private static void greatestIsOut(int out) {
    int one = (out + 1) % 4;
    int other = (out + 2) % 4;
    for (int waits = 0; waits < 2; waits++) {
      Sessionstore x = plain();
      x.begin(one, 0);
      x.begin(other, 0);
      x.begin(out, 0);
      set(x, one, 1, 11, 1);
      set(x, other, 2, 22, 1);
      set(x, out, waits == 1 ? 1 : 3, 33, waits == 1 ? -2 : 1);
      set(x, one, 2, 12, -2);
      set(x, other, 1, 21, -21);
      T.same("who went on", "1 1 0 0 -1/", result(x, one));
      T.same("who is out of it stays", waits == 1 ? out + ">" + one : "", x.waits());
      T.same("with its transaction", 6, x.ofSession(out, 2));
    }
  }

  private static void twoRings() {
    T.says("then GOING ON again.");
    Sessionstore x = plain();
    for (int session = 0; session < 4; session++) {
      x.begin(session, 2);
      run(x, session, "select c1 from T0 where c0 = 1", 1);
    }
    set(x, 0, 1, 1, -2);
    T.same("a reader is waited for by all", "0>1,2,3", x.waits());
    set(x, 1, 1, 2, -21);
    T.same("one ring at once", "0>2,3", x.waits());
    set(x, 2, 1, 3, -21);
    set(x, 3, 1, 4, -21);
    T.same("the first is left", "", x.waits());
    T.same("and done", 1, x.result(0, 0));
    Sessionstore y = plain();
    y.begin(3, 2);
    y.begin(2, 2);
    y.begin(1, 0);
    run(y, 3, "select c1 from T0 where c0 = 1", 1);
    run(y, 2, "select c1 from T0 where c0 = 1", 1);
    set(y, 1, 2, 21, 1);
    set(y, 3, 2, 1, -2);
    set(y, 2, 2, 2, -2);
    T.same("two wait for one", "3>1 2>1", y.waits());
    set(y, 1, 1, 3, -21);
    T.same("in two rings, and it alone gave way", "2>3", y.waits());
    T.same("the first went on", 1, y.result(3, 0));
  }

  private static void levels() {
    T.says("A transaction begins with begin(), at a LEVEL (0 LATEST, 1 SNAPSHOT, 2 SERIAL),");
    Sessionstore x = plain();
    x.begin(0, 0);
    x.begin(1, 1);
    x.begin(2, 2);
    T.same("levels", "0 1 2 -1", x.ofSession(0, 0) + " " + x.ofSession(1, 0) + " " + x.ofSession(2, 0) + " "
        + x.ofSession(3, 0));
    T.same("last COMMIT as they began", "3 3 3 0", x.ofSession(0, 3) + " " + x.ofSession(1, 3) + " " + x.ofSession(2, 3)
        + " " + x.ofSession(3, 3));
    Sessionstore y = new Sessionstore();
    y.begin(0, 0);
    T.same("none was committed", 0, y.ofSession(0, 3));
  }

  private static void commitNumbers() {
    T.says("COMMIT: what it has changed becomes VERSIONS (section 5) with the next COMMIT number (1, 2, ...), if it has changed"
        + " something (otherwise it has none).");
    Sessionstore x = new Sessionstore();
    Tests.must(x, 0, "create T0 ( c0 , c1 )");
    x.begin(0, 0);
    T.same("nothing", 0, x.commit(0));
    x.begin(0, 0);
    run(x, 0, "select c0 from T0", 0);
    run(x, 0, "delete T0", 0);
    run(x, 0, "insert T0 values ( 99 , 1 )", -15);
    T.same("nothing changed", 0, x.commit(0));
    T.same("no number", 0, x.disc(4));
    x.begin(0, 0);
    run(x, 0, "insert T0 values ( 5 , 5 )", 1);
    T.same("the first", 1, x.commit(0));
    x.begin(0, 2);
    run(x, 0, "insert T0 values ( 6 , 6 )", 1);
    run(x, 0, "update T0 set c1 = 7 where c0 = 5", 1);
    T.same("the next", 2, x.commit(0));
    T.same("all with the one number", "1:5,5 2:5,7/2:6,6", x.versions(0, 5) + "/" + x.versions(0, 6));
    x.begin(0, 0);
    x.savepoint(0, 1);
    run(x, 0, "delete T0", 2);
    x.back(0, 1);
    T.same("all taken back", 0, x.commit(0));
    T.same("the last number", 2, x.disc(4));
  }

  private static void goneWhereNoRowWas() {
    T.says("A KEY that is GONE where no ROW was COMMITTED counts as not changed.");
    Sessionstore x = plain();
    x.begin(0, 0);
    run(x, 0, "insert T0 values ( 9 , 9 )", 1);
    run(x, 0, "delete T0 where c0 = 9", 1);
    T.same("changed till then", keys(9), x.changed(0, 0));
    T.same("no number", 0, x.commit(0));
    T.same("no VERSION", "", x.versions(0, 9));
    x.begin(0, 0);
    run(x, 0, "insert T0 values ( 9 , 9 )", 1);
    run(x, 0, "update T0 set c0 = 10 where c0 = 9", 1);
    T.same("a number by the other KEY", 4, x.commit(0));
    T.same("no VERSION of the one", "/4:10,9", x.versions(0, 9) + "/" + x.versions(0, 10));
    x.begin(0, 0);
    run(x, 0, "delete T0 where c0 = 10", 1);
    run(x, 0, "insert T0 values ( 10 , 9 )", 1);
    run(x, 0, "delete T0 where c0 = 10", 1);
    T.same("GONE where a ROW was", 5, x.commit(0));
    T.same("its VERSIONS", "4:10,9 5:gone", x.versions(0, 10));
    x.begin(0, 0);
    run(x, 0, "insert T0 values ( 10 , 9 )", 1);
    run(x, 0, "delete T0 where c0 = 10", 1);
    T.same("GONE where one was GONE", 0, x.commit(0));
    T.same("its VERSIONS as they were", "4:10,9 5:gone", x.versions(0, 10));
  }

  private static void rollback() {
    T.says("ROLL BACK: nothing of it is left. Both let all locks go.");
    Sessionstore x = plain();
    x.begin(0, 2);
    run(x, 0, "update T0 set c0 = c0 + 1", 3);
    run(x, 0, "insert T1 values ( 4 , 4 )", 1);
    x.savepoint(0, 2);
    T.same("how many RECORDS", 5, x.rollback(0));
    T.same("rows", "1,10;2,20;3,30/", x.table(0) + "/" + x.table(1));
    for (int what = 0; what < 8; what++) {
      T.same("ofSession " + what, what == 0 ? -1 : 0, x.ofSession(0, what));
    }
    T.same("locks", 0, x.locks(0, 0, true) | x.locks(0, 0, false) | x.locks(0, 1, true) | x.locks(0, 1, false));
    T.same("no number", 3, x.disc(4));
    T.same("no versions", 3, x.house(2));
    x.begin(0, 0);
    T.same("nothing to take back", 0, x.rollback(0));
  }

  private static void savepoints() {
    T.says("SAVEPOINTS 0 to 2 of a transaction: what it has changed by then; to go BACK to one: it is so again; that one stays,"
        + " and those that were set ahead of it; those set later are gone; locks stay.");
    Sessionstore x = plain();
    x.begin(0, 0);
    T.same("with nothing changed", 0, x.savepoint(0, 2));
    set(x, 0, 1, 11, 1);
    T.same("with one", 1, x.savepoint(0, 0));
    set(x, 0, 1, 12, 1);
    set(x, 0, 2, 22, 1);
    T.same("with two", 2, x.savepoint(0, 1));
    run(x, 0, "delete T0", 3);
    T.same("all three", 7, x.ofSession(0, 5));
    T.same("back to the last", 3, x.back(0, 1));
    T.same("so again", "1,12;2,22;3,30", x.seen(0, 0));
    T.same("it stays, and those ahead", 7, x.ofSession(0, 5));
    T.same("back to the one ahead", 2, x.back(0, 0));
    T.same("so again", "1,11;2,20;3,30", x.seen(0, 0));
    T.same("those set later are gone", 5, x.ofSession(0, 5));
    T.same("locks stay", keys(1, 2, 3), x.locks(0, 0, true));
    T.same("back to the first", 1, x.back(0, 2));
    T.same("so again", "1,10;2,20;3,30", x.seen(0, 0));
    T.same("that one alone", 4, x.ofSession(0, 5));
    T.same("nothing is changed", 0, x.commit(0));
    T.fails("none without a transaction", Tests.STATE, x, () -> x.back(0, 2));
  }

  private static void savepointSetAgain() {
    T.promise(9, "Sets a SAVEPOINT (one with that number that there is goes).");
    Sessionstore x = plain();
    x.begin(0, 0);
    x.savepoint(0, 0);
    x.savepoint(0, 1);
    set(x, 0, 1, 11, 1);
    T.same("set again", 1, x.savepoint(0, 0));
    T.same("both are there", 3, x.ofSession(0, 5));
    set(x, 0, 2, 22, 1);
    T.same("back to it, as it was set again", 1, x.back(0, 0));
    T.same("seen", "1,11;2,20;3,30", x.seen(0, 0));
    T.same("the other was set ahead of it", 3, x.ofSession(0, 5));
    T.same("back to the other", 1, x.back(0, 1));
    T.same("the one that was set again is later", 2, x.ofSession(0, 5));
    T.fails("gone", Tests.STATE, x, () -> x.back(0, 0));
  }

  private static void savepointGone() {
    T.says("those set later are gone;");
    Sessionstore x = plain();
    x.begin(0, 1);
    T.fails("never set", Tests.STATE, x, () -> x.back(0, 2));
    x.savepoint(0, 2);
    set(x, 0, 1, 11, 1);
    x.savepoint(0, 1);
    x.savepoint(0, 0);
    x.back(0, 2);
    T.fails("set later", Tests.STATE, x, () -> x.back(0, 1));
    T.fails("set later", Tests.STATE, x, () -> x.back(0, 0));
    T.same("that one stays", 0, x.back(0, 2));
    x.savepoint(0, 1);
    T.same("set anew", 6, x.ofSession(0, 5));
    x.commit(0);
    x.begin(0, 0);
    T.same("none of another transaction", 0, x.ofSession(0, 5));
    T.fails("of another transaction", Tests.STATE, x, () -> x.back(0, 2));
    x.savepoint(0, 0);
    x.rollback(0);
    x.begin(0, 0);
    T.fails("of one that is rolled back", Tests.STATE, x, () -> x.back(0, 0));
  }

  private static void takenBackTwice() {
    T.says("(by going BACK: of those behind the SAVEPOINT; by ROLLING BACK: of all, but those taken back already)");
    Sessionstore x = plain();
    x.begin(0, 0);
    set(x, 0, 1, 11, 1);
    x.savepoint(0, 0);
    run(x, 0, "update T0 set c1 = c1 + 1", 3);
    run(x, 0, "update T0 set c0 = 9 where c0 = 3", 1);
    int records = x.disc(0);
    T.same("back", 5, x.back(0, 0));
    T.same("records", records + 5, x.disc(0));
    T.same("back again takes nothing", 0, x.back(0, 0));
    T.same("records", records + 5, x.disc(0));
    set(x, 0, 2, 22, 1);
    T.same("back takes only what is behind", 1, x.back(0, 0));
    set(x, 0, 2, 22, 1);
    records = x.disc(0);
    T.same("what is left", 2, x.rollback(0));
    T.same("records", records + 2, x.disc(0));
  }

  private static String result(Sessionstore x, int session) {
    StringBuilder all = new StringBuilder();
    for (int what = 0; what < 5; what++) {
      all.append(what > 0 ? " " : "").append(x.result(session, what));
    }
    return all.append('/').append(x.answer(session)).toString();
  }

  private static void results() {
    T.says("RESULT of a SESSION, of its last statement: KIND 0 none yet, 1 CHANGED");
    Sessionstore x = plain();
    T.same("none yet", "0 0 0 0 -1/", result(x, 1));
    T.same("CHANGED", "1 1 0 0 -1/", result(x, 0));
    T.says("2 ROWS (of select), 3 ERROR (its number, and PLACE, NONE but for 1 to 3), 4 WAITS, 5 DONE (create, drop, index).");
    run(x, 1, "select c0 , c1 from T0 where c0 > 1", 2);
    T.same("ROWS", "2 2 2 0 -1/2,20;3,30", result(x, 1));
    run(x, 1, "select c0 , c1 , 1 from T0 where c0 > 3", 0);
    T.same("no ROWS", "2 0 3 0 -1/", result(x, 1));
    run(x, 1, "delete T0 where c0 > 3", 0);
    T.same("CHANGED none", "1 0 0 0 -1/", result(x, 1));
    run(x, 1, "select c0 from c0", -11);
    T.same("ERROR 1", "3 0 0 1 3/", result(x, 1));
    run(x, 1, "select c0 from T3", -12);
    T.same("ERROR 2", "3 0 0 2 1/", result(x, 1));
    run(x, 1, "select c0 , sum ( c0 ) from T0", -13);
    T.same("ERROR 3", "3 0 0 3 1/", result(x, 1));
    run(x, 1, "create T0 ( c0 )", -14);
    T.same("ERROR 4", "3 0 0 4 -1/", result(x, 1));
    run(x, 1, "insert T0 values ( 20 , 0 )", -15);
    T.same("ERROR 5", "3 0 0 5 -1/", result(x, 1));
    run(x, 1, "create T2 ( c0 )", 0);
    T.same("DONE", "5 0 0 0 -1/", result(x, 1));
    run(x, 1, "index T2 c0", 0);
    T.same("DONE", "5 0 0 0 -1/", result(x, 1));
    run(x, 1, "drop T2", 0);
    T.same("DONE", "5 0 0 0 -1/", result(x, 1));
    run(x, 1, "select c0 from T0 where c0 = 1", 1);
    x.begin(0, 0);
    set(x, 0, 1, 1, 1);
    set(x, 1, 1, 2, -2);
    T.same("WAITS", "4 0 0 0 -1/", result(x, 1));
    x.giveUp(1);
    T.same("ERROR 12", "3 0 0 12 -1/", result(x, 1));
    x.rollback(0);
    T.same("the RESULT is that of the last statement", "1 1 0 0 -1/", result(x, 0));
  }

  private static void placeIsGone() {
    T.says("and PLACE, NONE but for 1 to 3");
    String[] texts = {"select c0 from T0 where c0 = 1", "delete T0 where c0 > 3", "index T0 c1", "create T0 ( c0 )",
        "insert T0 values ( 20 , 0 )", "insert T0 values ( 1 , 0 )"};
    String[] told = {"2 1 1 0 -1/1", "1 0 0 0 -1/", "5 0 0 0 -1/", "3 0 0 4 -1/", "3 0 0 5 -1/", "3 0 0 8 -1/"};
    for (int i = 0; i < texts.length; i++) {
      Sessionstore x = plain();
      run(x, 1, "select c0 from c0", -11);
      T.same("PLACE", "3 0 0 1 3/", result(x, 1));
      run(x, 1, "select 1 , c3 from T0", -12);
      T.same("PLACE of a NAME", "3 0 0 2 3/", result(x, 1));
      Tests.run(x, 1, texts[i]);
      T.same("none behind it: " + texts[i], told[i], result(x, 1));
    }
    Sessionstore x = plain();
    x.begin(0, 0);
    set(x, 0, 1, 1, 1);
    run(x, 1, "select", -11);
    T.same("PLACE", "3 0 0 1 1/", result(x, 1));
    set(x, 1, 1, 2, -2);
    T.same("WAITS", "4 0 0 0 -1/", result(x, 1));
    x.rollback(1);
    T.same("KIND 0", "0 0 0 0 -1/", result(x, 1));
    run(x, 1, "select", -11);
    x.crash(false);
    x.recover(-1);
    T.same("gone with a crash", "0 0 0 0 -1/", result(x, 1));
  }

  private static void resultOfRollback() {
    T.promise(8, "(a statement that WAITS is gone, too; RESULT stays, but of one that WAITED it is KIND 0)");
    Sessionstore x = plain();
    x.begin(0, 0);
    run(x, 0, "select c0 from T0 where c0 = 1", 1);
    x.rollback(0);
    T.same("stays", "2 1 1 0 -1/1", result(x, 0));
    x.begin(0, 0);
    set(x, 0, 1, 1, 1);
    x.begin(1, 0);
    set(x, 1, 2, 2, 1);
    set(x, 1, 1, 2, -2);
    T.same("how many", 1, x.rollback(1));
    T.same("KIND 0", "0 0 0 0 -1/", result(x, 1));
    T.same("waits no more", "", x.waits());
    T.same("commit", 4, x.commit(0));
    T.same("it was not done", 1, x.cell(0, 1, 1));
    set(x, 1, 2, 5, 1);
    T.same("nor does it hold a lock", 5, x.cell(0, 2, 1));
  }

  private static void order() {
    T.says("ORDER: the numbers of the SERIAL transactions that COMMITTED (with or without a number), in sequence,");
    Sessionstore x = plain();
    T.same("none", "", x.order());
    x.begin(0, 2);
    x.begin(1, 2);
    x.begin(2, 1);
    x.begin(3, 0);
    set(x, 1, 1, 1, 1);
    x.commit(3);
    x.commit(2);
    T.same("none of the others", "", x.order());
    T.same("with a number", 4, x.commit(1));
    T.same("the one", "5", x.order());
    T.same("without a number", 0, x.commit(0));
    T.same("in sequence", "5 4", x.order());
    x.begin(0, 2);
    x.rollback(0);
    set(x, 0, 1, 1, 1);
    T.same("none that is rolled back, none by itself", "5 4", x.order());
    run(x, 0, "create T2 ( c0 )", 0);
    run(x, 0, "drop T2", 0);
    T.same("create and drop take none", "5 4", x.order());
  }

  private static void orderAndCrash() {
    T.says("but for those with a COMMIT number that a crash took.");
    Sessionstore x = plain();
    x.begin(0, 2);
    set(x, 0, 1, 1, 1);
    x.commit(0);
    x.lazy(true);
    x.begin(0, 2);
    set(x, 0, 1, 2, 1);
    x.commit(0);
    x.begin(0, 2);
    x.commit(0);
    x.begin(0, 2);
    set(x, 0, 1, 3, 1);
    x.commit(0);
    T.same("ahead of it", "4 5 6 7", x.order());
    x.safe(2);
    T.same("one is lost", 1, x.crash(false));
    x.recover(-1);
    T.same("behind it", "4 5 6", x.order());
    x.begin(0, 2);
    T.same("numbered on", 8, x.ofSession(0, 2));
    set(x, 0, 1, 4, 1);
    T.same("the number that was lost comes again", 6, x.commit(0));
    T.same("in sequence", "4 5 6 8", x.order());
    T.same("lost", 1, x.crash(false));
    x.recover(-1);
    T.same("that one is taken, those ahead are not", "4 5 6", x.order());
    x.begin(0, 2);
    set(x, 0, 1, 5, 1);
    x.commit(0);
    x.begin(0, 2);
    T.same("without a number", 0, x.commit(0));
    T.same("ahead of it", "4 5 6 9 10", x.order());
    x.crash(false);
    x.recover(-1);
    T.same("one behind the lost one stays", "4 5 6 10", x.order());
    x.crash(true);
    x.recover(-1);
    T.same("also behind another crash", "4 5 6 10", x.order());
  }
}
