/** The sentences of section 5: VERSIONS, RECORDS, what is SAFE, crashes, and what is found again. */
public final class RecordsTest {
  private static final Tests T = new Tests("RecordsTest");

  public static void main(String[] args) {
    versions();
    lastVersionIsCommitted();
    low();
    vacuum();
    vacuumOfGone();
    vacuumWithSnapshots();
    recordsOfStatements();
    recordsOfTakingBack();
    recordsOfCommits();
    safeByCommit();
    lazyCommits();
    commitWithoutNumber();
    safeInSequence();
    safeAlready();
    checkpoints();
    crashTakesAll();
    crashWithNothingLost();
    crashBetweenRecords();
    found();
    foundVersions();
    foundAfterVacuum();
    foundTables();
    brokenOff();
    numberedOn();
    crashAgain();
    knocks();
    T.end();
  }

  /** T0 ( c0 , c1 ) with 1,1 2,2: COMMITS 1 and 2, four RECORDS. */
  private static Sessionstore plain() {
    Sessionstore x = new Sessionstore();
    Tests.must(x, 0, "create T0 ( c0 , c1 )");
    Tests.must(x, 0, "insert T0 values ( 1 , 1 )");
    Tests.must(x, 0, "insert T0 values ( 2 , 2 )");
    return x;
  }

  private static void set(Sessionstore x, int session, int key, int value) {
    T.same("set " + key + " to " + value, 1,
        Tests.run(x, session, "update T0 set c1 = " + value + " where c0 = " + key));
  }

  /** RECORDS, SAFE ones, the last COMMIT number, the last one that is SAFE. */
  private static void disc(Sessionstore x, String what, String want) {
    T.same(what, want, x.disc(0) + " " + x.disc(1) + " " + x.disc(4) + " " + x.disc(5));
  }

  private static void versions() {
    T.says("VERSIONS of a KEY of a TABLE: by COMMIT numbers, each a ROW or GONE.");
    Sessionstore x = plain();
    set(x, 0, 1, 5);
    Tests.must(x, 0, "delete T0 where c0 = 1");
    Tests.must(x, 0, "insert T0 values ( 1 , null )");
    Tests.must(x, 0, "update T0 set c0 = 3 where c0 = 1");
    T.same("of 1", "1:1,1 3:1,5 4:gone 5:1,- 6:gone", x.versions(0, 1));
    T.same("of 3", "6:3,-", x.versions(0, 3));
    T.same("of 2", "2:2,2", x.versions(0, 2));
    T.same("of none", "", x.versions(0, 0));
    T.same("of T0", 7, x.ofTable(0, 2));
    T.same("in all", 7, x.house(2));
    x.begin(0, 0);
    set(x, 0, 2, 7);
    T.same("none of what is open", "2:2,2", x.versions(0, 2));
  }

  private static void lastVersionIsCommitted() {
    T.says("What is COMMITTED is the last one.");
    Sessionstore x = plain();
    set(x, 0, 1, 5);
    Tests.must(x, 0, "delete T0 where c0 = 2");
    T.same("rows", "1,5", x.table(0));
    T.same("cell", 5, x.cell(0, 1, 1));
    T.same("gone", -88888, x.cell(0, 2, 1));
    T.same("found", 2, x.found(0, 1, 5));
    T.same("not the old one", 0, x.found(0, 1, 1));
  }

  private static void low() {
    T.says("VACUUM: LOW is the least of the COMMIT numbers that were the last ones as transactions of the LEVEL 1 that are open"
        + " began, and of the last one;");
    Sessionstore y = new Sessionstore();
    T.same("nothing committed", 0, y.low());
    y.begin(0, 1);
    T.same("nothing committed, with a transaction", 0, y.low());
    Sessionstore x = plain();
    T.same("without a transaction the last one", 2, x.low());
    x.begin(0, 0);
    x.begin(1, 2);
    set(x, 3, 1, 5);
    T.same("none of the LEVELS 0 and 2", 3, x.low());
    x.begin(2, 1);
    T.same("began now", 3, x.low());
    set(x, 3, 1, 6);
    T.same("began then", 3, x.low());
    x.rollback(0);
    x.begin(0, 1);
    set(x, 3, 1, 7);
    T.same("the least", 3, x.low());
    x.commit(2);
    T.same("the least of those that are open", 4, x.low());
    x.rollback(0);
    T.same("the last one", 5, x.low());
  }

  private static void vacuum() {
    T.says("of each KEY all VERSIONS ahead of the last one that is not above LOW go, and that one, if it is GONE.");
    Sessionstore x = plain();
    T.same("nothing to go", 0, x.vacuum());
    set(x, 0, 1, 5);
    set(x, 0, 1, 6);
    T.same("those ahead", 2, x.vacuum());
    T.same("the last one stays", "4:1,6", x.versions(0, 1));
    T.same("of another KEY", "2:2,2", x.versions(0, 2));
    T.same("again", 0, x.vacuum());
    T.same("rows", "1,6;2,2", x.table(0));
    T.same("in all", 2, x.house(2));
    Sessionstore y = new Sessionstore();
    T.same("of nothing", 0, y.vacuum());
  }

  private static void vacuumOfGone() {
    T.says("and that one, if it is GONE.");
    Sessionstore x = plain();
    Tests.must(x, 0, "delete T0 where c0 = 1");
    T.same("the row and GONE", 2, x.vacuum());
    T.same("none is left", "", x.versions(0, 1));
    Tests.must(x, 0, "insert T0 values ( 1 , 9 )");
    T.same("anew", "4:1,9", x.versions(0, 1));
    Tests.must(x, 0, "delete T0 where c0 = 2");
    x.begin(1, 1);
    Tests.must(x, 0, "insert T0 values ( 2 , 7 )");
    T.same("GONE at LOW goes, the one above stays", 2, x.vacuum());
    Sessionstore y = new Sessionstore();
    Tests.must(y, 0, "create T0 ( c0 )");
    Tests.must(y, 0, "insert T0 values ( 19 )");
    Tests.must(y, 0, "delete T0");
    T.same("of the one KEY that there is", 2, y.vacuum());
    T.same("nothing is left", 0, y.house(2));
    T.same("versions", "6:2,7", x.versions(0, 2));
    T.same("it sees", "1,9", x.seen(1, 0));
    T.same("rows", "1,9;2,7", x.table(0));
  }

  private static void vacuumWithSnapshots() {
    T.says("LOW is the least of the COMMIT numbers");
    Sessionstore x = plain();
    x.begin(1, 1);
    set(x, 0, 1, 3);
    x.begin(2, 1);
    set(x, 0, 1, 4);
    set(x, 0, 1, 5);
    Tests.must(x, 0, "delete T0 where c0 = 2");
    T.same("nothing is ahead of LOW 2", 0, x.vacuum());
    T.same("versions", "1:1,1 3:1,3 4:1,4 5:1,5", x.versions(0, 1));
    x.rollback(1);
    T.same("ahead of LOW 3", 1, x.vacuum());
    T.same("versions", "3:1,3 4:1,4 5:1,5", x.versions(0, 1));
    T.same("GONE above LOW stays, and the row ahead", "2:2,2 6:gone", x.versions(0, 2));
    T.same("it sees the same", "1,3;2,2", x.seen(2, 0));
    T.same("a CONFLICT is one still", -19, Tests.run(x, 2, "delete T0 where c0 = 1"));
    T.same("then all", 4, x.vacuum());
    T.same("versions", "5:1,5/", x.versions(0, 1) + "/" + x.versions(0, 2));
  }

  private static void recordsOfStatements() {
    T.says("RECORDS, one behind the other: as a statement is done one for each KEY that it writes (old and new KEYS, each"
        + " once);");
    Sessionstore x = plain();
    disc(x, "two inserts by themselves", "4 4 2 2");
    x.begin(0, 0);
    Tests.must(x, 0, "insert T0 values ( 7 , 7 )");
    disc(x, "an insert", "5 4 2 2");
    Tests.must(x, 0, "update T0 set c0 = c0 + 1");
    disc(x, "old and new: 1 2 7, 2 3 8", "10 4 2 2");
    Tests.must(x, 0, "update T0 set c1 = 0 where c0 = 3");
    disc(x, "the same KEY", "11 4 2 2");
    Tests.must(x, 0, "delete T0 where c0 > 2");
    disc(x, "two that go", "13 4 2 2");
    Tests.must(x, 0, "delete T0 where c0 > 2");
    Tests.must(x, 0, "select c0 from T0");
    Tests.run(x, 0, "insert T0 values ( 2 , 2 )");
    Tests.run(x, 0, "insert T0 values ( 20 , 2 )");
    disc(x, "without ROWS, a query, an ERROR", "13 4 2 2");
    Tests.run(x, 1, "delete T0 where c0 = 2");
    disc(x, "none while it WAITS", "13 4 2 2");
    x.giveUp(1);
    disc(x, "none as it is given up", "13 4 2 2");
  }

  private static void recordsOfTakingBack() {
    T.says("for each such one that is taken back (by going BACK: of those behind the SAVEPOINT; by ROLLING BACK: of all, but"
        + " those taken back already) one;");
    Sessionstore x = plain();
    x.begin(0, 1);
    set(x, 0, 1, 5);
    x.savepoint(0, 0);
    disc(x, "a savepoint has none", "5 4 2 2");
    Tests.must(x, 0, "update T0 set c1 = 6");
    x.back(0, 0);
    disc(x, "two, and two taken back", "9 4 2 2");
    x.back(0, 0);
    disc(x, "none again", "9 4 2 2");
    Tests.must(x, 0, "insert T0 values ( 5 , 5 )");
    x.rollback(0);
    disc(x, "one, and two taken back", "12 4 2 2");
    x.begin(0, 1);
    set(x, 0, 2, 5);
    set(x, 1, 1, 7);
    disc(x, "and one that COMMITS", "15 15 3 3");
    Tests.run(x, 0, "delete T0 where c0 = 1");
    disc(x, "a CONFLICT takes back", "16 15 3 3");
    x.begin(0, 0);
    x.begin(1, 0);
    set(x, 0, 1, 8);
    set(x, 1, 2, 8);
    Tests.run(x, 0, "delete T0 where c0 = 2");
    Tests.run(x, 1, "delete T0 where c0 = 1");
    disc(x, "a RING takes back, and the other one goes on", "20 15 3 3");
  }

  private static void recordsOfCommits() {
    T.says("with each COMMIT that has a number one.");
    Sessionstore x = plain();
    x.begin(0, 0);
    x.commit(0);
    disc(x, "none without a number", "4 4 2 2");
    x.begin(0, 0);
    set(x, 0, 1, 5);
    set(x, 0, 2, 5);
    x.commit(0);
    disc(x, "one with a number", "7 7 3 3");
    Tests.must(x, 0, "create T1 ( c0 )");
    Tests.must(x, 0, "index T1 c0");
    Tests.must(x, 0, "drop T1");
    disc(x, "create, index and drop have none", "7 7 3 3");
  }

  private static void safeByCommit() {
    T.says("With a COMMIT that has a number, unless it is LAZY (as lazy() told; at first none is), all RECORDS are SAFE, with"
        + " its own;");
    Sessionstore x = plain();
    x.begin(0, 0);
    Tests.must(x, 0, "update T0 set c1 = 9");
    disc(x, "not yet", "6 4 2 2");
    Tests.must(x, 1, "insert T0 values ( 5 , 5 )");
    disc(x, "all, also those of others", "8 8 3 3");
    T.same("nothing is lost by them", 0, x.crash(false));
    x.recover(-1);
    T.same("what was open is not found", "1,1;2,2;5,5", x.table(0));
  }

  private static void lazyCommits() {
    T.says("unless it is LAZY (as lazy() told; at first none is)");
    Sessionstore x = new Sessionstore();
    T.same("at first", 0, x.disc(3));
    T.same("were not", 0, x.lazy(false));
    T.same("were not", 0, x.lazy(true));
    T.same("told", 1, x.disc(3));
    x = plain();
    x.lazy(true);
    set(x, 0, 1, 5);
    disc(x, "not SAFE", "6 4 3 2");
    x.begin(0, 0);
    set(x, 0, 1, 6);
    x.lazy(false);
    disc(x, "lazy() alone makes none SAFE", "7 4 3 2");
    x.commit(0);
    disc(x, "as it is told when it COMMITS", "8 8 4 4");
    x.begin(0, 0);
    set(x, 0, 1, 7);
    x.lazy(true);
    x.commit(0);
    disc(x, "as it is told when it COMMITS", "10 8 5 4");
    T.says("so with create, drop, index;");
    Tests.must(x, 0, "index T0 c1");
    disc(x, "also while they are LAZY", "10 10 5 5");
  }

  private static void commitWithoutNumber() {
    T.says("With a COMMIT that has a number,");
    Sessionstore x = plain();
    x.begin(0, 2);
    Tests.must(x, 0, "insert T0 values ( 9 , 9 )");
    Tests.must(x, 0, "delete T0 where c0 = 9");
    T.same("without one", 0, x.commit(0));
    disc(x, "none gets SAFE", "6 4 2 2");
    T.same("told in ORDER", "3", x.order());
    T.same("no number is lost", 0, x.crash(false));
    x.recover(-1);
    T.same("in ORDER still", "3", x.order());
  }

  private static void safeInSequence() {
    T.says("otherwise RECORDS get SAFE by safe(), in sequence.");
    Sessionstore x = plain();
    x.lazy(true);
    set(x, 0, 1, 5);
    Tests.must(x, 0, "update T0 set c1 = 6");
    disc(x, "none", "9 4 4 2");
    T.same("one", 5, x.safe(1));
    disc(x, "the change, not its COMMIT", "9 5 4 2");
    T.same("the next", 6, x.safe(1));
    disc(x, "its COMMIT", "9 6 4 3");
    T.same("two", 8, x.safe(2));
    disc(x, "both changes", "9 8 4 3");
    T.same("the last", 9, x.safe(1));
    disc(x, "all", "9 9 4 4");
  }

  private static void safeAlready() {
    T.promise(13, "- `many`: how many (all, if there are fewer)");
    Sessionstore x = new Sessionstore();
    T.same("of none", 0, x.safe(1));
    T.same("of none", 0, x.safe(Integer.MAX_VALUE));
    T.same("of none", 0, x.checkpoint());
    T.same("of none", 0, x.pages(20));
    x = plain();
    T.same("all are already", 4, x.safe(1));
    T.same("all are already", 4, x.safe(Integer.MAX_VALUE));
    T.same("all are already", 4, x.checkpoint());
    x.lazy(true);
    set(x, 0, 1, 5);
    T.same("more than there are", 6, x.safe(3));
    set(x, 0, 1, 6);
    T.same("as many as there are", 8, x.safe(2));
    set(x, 0, 1, 6);
    T.same("the greatest number", 10, x.safe(Integer.MAX_VALUE));
    T.same("again", 10, x.safe(1));
  }

  private static void checkpoints() {
    T.promise(15, "A CHECKPOINT is made (nothing that is told hangs on that, but that all RECORDS are SAFE then).");
    Sessionstore x = plain();
    x.lazy(true);
    set(x, 0, 1, 5);
    x.begin(1, 0);
    set(x, 1, 2, 6);
    T.same("all", 7, x.checkpoint());
    disc(x, "all", "7 7 3 3");
    T.same("the transaction goes on", 4, x.commit(1));
    T.same("lost", 1, x.crash(false));
    T.same("last", 3, x.recover(-1));
    T.same("rows", "1,5;2,2", x.table(0));
    T.promise(14, "Some pages of the disc are written (nothing that is told hangs on that).");
    set(x, 0, 1, 9);
    long before = x.digest();
    T.same("pages", 0, x.pages(1));
    T.same("pages", 0, x.pages(20));
    T.same("the same", before, x.digest());
    T.same("lost all the same", 1, x.crash(true));
    x.recover(-1);
    T.same("rows", "1,5;2,2", x.table(0));
  }

  private static void crashTakesAll() {
    T.says("CRASH: the power is OFF: all transactions, WAITING statements, TYPED and RESULTS are gone.");
    Sessionstore x = plain();
    x.begin(0, 2);
    x.savepoint(0, 1);
    set(x, 0, 1, 5);
    Tests.run(x, 1, "delete T0");
    Tests.must(x, 2, "select * from T0");
    Tests.type(x, 3, "select * from T0");
    x.begin(3, 1);
    T.same("nothing is lost", 0, x.crash(true));
    T.same("OFF", 0, x.disc(2));
    T.same("last", 2, x.recover(-1));
    T.same("ON", 1, x.disc(2));
    for (int session = 0; session < 4; session++) {
      for (int what = 0; what < 8; what++) {
        T.same("ofSession " + session + " " + what, what == 0 ? -1 : 0, x.ofSession(session, what));
      }
      for (int what = 0; what < 5; what++) {
        T.same("result " + session + " " + what, what == 4 ? -1 : 0, x.result(session, what));
      }
      T.same("answer", "", x.answer(session));
      T.same("typed", "", x.typed(session));
      T.same("seen", "1,1;2,2", x.seen(session, 0));
      for (int t = 0; t < 4; t++) {
        T.same("locks", 0, x.locks(session, t, true) | x.locks(session, t, false) | x.changed(session, t));
      }
    }
    T.same("waits", "", x.waits());
    T.same("open", "0 0", x.house(3) + " " + x.house(4));
    T.same("begin", 6, x.begin(1, 0));
  }

  private static void crashWithNothingLost() {
    T.promise(16, "Returns how many COMMIT numbers are lost.");
    Sessionstore x = new Sessionstore();
    T.same("of nothing", 0, x.crash(false));
    T.same("of nothing", 0, x.recover(-1));
    T.same("of nothing, torn", 0, x.crash(true));
    T.same("of nothing, broken off", 0, x.recover(0));
    x = plain();
    T.same("all are SAFE", 0, x.crash(false));
    T.same("last", 2, x.recover(-1));
    T.same("rows", "1,1;2,2", x.table(0));
    T.same("again at once", 0, x.crash(false));
    T.same("last", 2, x.recover(-1));
    T.same("rows", "1,1;2,2", x.table(0));
    x.begin(0, 0);
    set(x, 0, 1, 5);
    T.same("an open one has no number", 0, x.crash(false));
    x.recover(-1);
    x.lazy(true);
    set(x, 0, 1, 5);
    set(x, 0, 1, 6);
    set(x, 0, 2, 6);
    T.same("three", 3, x.crash(false));
  }

  private static void crashBetweenRecords() {
    T.says("RECOVERY: COMMITTED is what those COMMITS made whose RECORD was SAFE; the last one of these is the last COMMIT"
        + " number;");
    String[] rows = {"1,1;2,2", "1,1;2,2", "1,5;2,2", "1,5;2,2", "1,5;2,2", "1,6;2,6"};
    for (int many = 0; many < rows.length; many++) {
      Sessionstore x = plain();
      x.lazy(true);
      set(x, 0, 1, 5);
      Tests.must(x, 0, "update T0 set c1 = 6");
      if (many > 0) {
        x.safe(many);
      }
      int last = many < 2 ? 2 : many < 5 ? 3 : 4;
      disc(x, many + " more are SAFE", "9 " + (4 + many) + " 4 " + last);
      T.same("lost with " + many, 4 - last, x.crash(many % 2 == 1));
      T.same("while OFF", "9 " + (4 + many) + " 0 1 " + last + " " + last, x.disc(0) + " " + x.disc(1) + " " + x.disc(2) + " "
          + x.disc(3) + " " + x.disc(4) + " " + x.disc(5));
      T.same("last with " + many, last, x.recover(-1));
      T.same("rows with " + many, rows[many], x.table(0));
      disc(x, "no RECORDS", "0 0 " + last + " " + last);
    }
  }

  private static void found() {
    T.says("COMMITTED is what those COMMITS made whose RECORD was SAFE;");
    Sessionstore x = plain();
    x.lazy(true);
    x.begin(0, 0);
    set(x, 0, 1, 5);
    set(x, 1, 2, 6);
    T.same("SAFE", 7, x.checkpoint());
    set(x, 0, 1, 7);
    T.same("commit", 4, x.commit(0));
    disc(x, "its RECORDS are SAFE in part, its COMMIT is not", "9 7 4 3");
    T.same("lost", 1, x.crash(false));
    x.recover(-1);
    T.same("nothing of it", "1,1;2,6", x.table(0));
    x.begin(0, 0);
    set(x, 0, 1, 5);
    x.rollback(0);
    x.lazy(false);
    set(x, 0, 2, 9);
    x.crash(false);
    x.recover(-1);
    T.same("nothing of what was taken back", "1,1;2,9", x.table(0));
  }

  private static void foundVersions() {
    T.says("each KEY with a ROW has one VERSION, that with its number;");
    Sessionstore x = plain();
    set(x, 0, 1, 5);
    set(x, 0, 1, 6);
    Tests.must(x, 0, "insert T0 values ( 3 , 3 )");
    Tests.must(x, 0, "delete T0 where c0 = 3");
    x.lazy(true);
    set(x, 0, 1, 7);
    Tests.must(x, 0, "delete T0 where c0 = 2");
    Tests.must(x, 0, "insert T0 values ( 4 , 4 )");
    T.same("lost", 3, x.crash(false));
    T.same("last", 6, x.recover(-1));
    T.same("versions", "4:1,6/2:2,2//", x.versions(0, 1) + "/" + x.versions(0, 2) + "/" + x.versions(0, 3) + "/"
        + x.versions(0, 4));
    T.same("in all", 2, x.house(2));
    T.same("sound", true, x.isSound());
    set(x, 0, 1, 8);
    T.same("the next number", "4:1,6 7:1,8", x.versions(0, 1));
  }

  private static void foundAfterVacuum() {
    T.says("Whether pages of the disc were written ahead, torn as the power failed, or the recovery broke off, does not"
        + " matter.");
    Sessionstore x = plain();
    x.lazy(true);
    set(x, 0, 1, 5);
    Tests.must(x, 0, "delete T0 where c0 = 2");
    T.same("vacuum", 3, x.vacuum());
    T.same("versions", "3:1,5/", x.versions(0, 1) + "/" + x.versions(0, 2));
    x.pages(20);
    T.same("lost", 2, x.crash(true));
    T.same("last", 2, x.recover(0));
    T.same("the rows that were SAFE are found, though their VERSIONS went", "1,1;2,2", x.table(0));
    T.same("versions", "1:1,1/2:2,2", x.versions(0, 1) + "/" + x.versions(0, 2));
    T.same("low", 2, x.low());
    T.same("vacuum", 0, x.vacuum());
  }

  private static void foundTables() {
    T.says("They make all RECORDS SAFE. drop takes ROWS, VERSIONS, CHECK and INDEXES with it.");
    Sessionstore x = plain();
    Tests.must(x, 0, "create T1 ( c0 notnull , c1 refs T0 ) check c1 <> 2");
    Tests.must(x, 0, "index T1 c1");
    Tests.must(x, 0, "create T2 ( c0 )");
    Tests.must(x, 0, "insert T2 values ( 5 )");
    Tests.must(x, 0, "insert T1 values ( 7 , 1 )");
    Tests.must(x, 0, "drop T2");
    T.same("nothing is lost", 0, x.crash(false));
    T.same("last", 4, x.recover(-1));
    T.same("tables", "create T0 ( c0 , c1 )/create T1 ( c0 notnull , c1 refs T0 ) check c1 <> 2/",
        x.made(0) + "/" + x.made(1) + "/" + x.made(2));
    T.same("rows", "1,1;2,2/7,1/", x.table(0) + "/" + x.table(1) + "/" + x.table(2));
    T.same("index", 1, x.ofColumn(1, 1, 2));
    T.same("refers", 0, x.ofColumn(1, 1, 1));
    T.same("check", -17, Tests.run(x, 0, "insert T1 values ( 8 , 2 )"));
    T.same("reference", -20, Tests.run(x, 0, "delete T0 where c0 = 1"));
    Tests.must(x, 0, "create T2 ( c0 )");
    T.same("no row of the dropped one", "", x.table(2));
    x.crash(false);
    x.recover(-1);
    T.same("nor behind a crash", "", x.table(2));
  }

  private static void brokenOff() {
    T.promise(17, "RECOVERY; it breaks off after so many of its steps, the power fails again, and it begins anew (and is not"
        + " broken off again).");
    long[] digests = new long[102];
    for (int steps = -1; steps <= 100; steps++) {
      Sessionstore x = plain();
      x.lazy(true);
      set(x, 0, 1, 5);
      set(x, 0, 2, 6);
      x.safe(3);
      x.crash(true);
      int many = steps;
      if (steps == 100) {
        T.fails("100 steps", Tests.ARGUMENT, x, () -> x.recover(many));
        T.fails("-2 steps", Tests.ARGUMENT, x, () -> x.recover(-2));
        T.same("OFF still", 0, x.disc(2));
        x.recover(-1);
      } else {
        T.same(steps + " steps", 3, x.recover(steps));
      }
      T.same("ON", 1, x.disc(2));
      T.same("rows", "1,5;2,2", x.table(0));
      digests[steps + 1] = x.digest();
      T.same("the same with " + steps, digests[0], digests[steps + 1]);
      T.fails("ON", Tests.STATE, x, () -> x.recover(-1));
      T.fails("ON, and 100 steps", Tests.ARGUMENT, x, () -> x.recover(100));
    }
  }

  private static void numberedOn() {
    T.says("transactions are numbered on; there are no RECORDS (0), and none SAFE.");
    Sessionstore x = plain();
    x.begin(0, 2);
    x.begin(1, 0);
    x.crash(false);
    x.recover(-1);
    disc(x, "none", "0 0 2 2");
    T.same("the last number", 4, x.house(6));
    T.same("numbered on", 5, x.begin(0, 0));
    set(x, 0, 1, 5);
    disc(x, "from 0 on", "1 0 2 2");
    T.same("COMMIT numbers go on", 3, x.commit(0));
    disc(x, "its own", "2 2 3 3");
  }

  private static void crashAgain() {
    T.promise(45, "5 the last one whose RECORD is SAFE (all ahead of the last recovery are); 4 and 5 are 0 where nothing was"
        + " COMMITTED (while OFF: 0 and 1 as they were, 4 as 5)");
    Sessionstore y = new Sessionstore();
    disc(y, "nothing was COMMITTED", "0 0 0 0");
    y.crash(false);
    disc(y, "nor while OFF", "0 0 0 0");
    Sessionstore x = plain();
    x.lazy(true);
    set(x, 0, 1, 5);
    disc(x, "ahead", "6 4 3 2");
    x.crash(false);
    disc(x, "while OFF", "6 4 2 2");
    x.recover(-1);
    disc(x, "all ahead of the recovery are SAFE", "0 0 2 2");
    set(x, 0, 1, 6);
    disc(x, "the number comes again", "2 0 3 2");
    x.safe(1);
    T.same("lost again", 1, x.crash(true));
    disc(x, "while OFF", "2 1 2 2");
    T.same("last", 2, x.recover(5));
    T.same("rows", "1,1;2,2", x.table(0));
    T.same("LAZY also behind a crash", 1, x.disc(3));
    someAreSafe();
  }

  /** Of several LAZY COMMITS some are SAFE as the power fails. */
  private static void someAreSafe() {
    for (int safe = 0; safe <= 6; safe++) {
      Sessionstore x = plain();
      x.lazy(true);
      for (int value = 5; value < 8; value++) {
        set(x, 0, 1, value);
      }
      disc(x, "ahead", "10 4 5 2");
      if (safe > 0) {
        T.same("SAFE", 4 + safe, x.safe(safe));
      }
      int last = 2 + safe / 2;
      disc(x, "some are SAFE", "10 " + (4 + safe) + " 5 " + last);
      T.same("lost", 5 - last, x.crash(safe % 2 == 0));
      T.same("last", last, x.recover(safe));
      disc(x, "none yet", "0 0 " + last + " " + last);
      set(x, 0, 1, 8);
      set(x, 0, 1, 9);
      disc(x, "none is SAFE", "4 0 " + (last + 2) + " " + last);
      x.safe(2);
      disc(x, "one is", "4 2 " + (last + 2) + " " + (last + 1));
      T.same("one is lost", 1, x.crash(false));
      x.recover(-1);
      T.same("the other one stays", "1,8;2,2", x.table(0));
      x.lazy(false);
      set(x, 0, 1, 3);
      disc(x, "all are SAFE", "2 2 " + (last + 2) + " " + (last + 2));
      T.same("none is lost", 0, x.crash(true));
      x.recover(99);
      T.same("rows", "1,3;2,2", x.table(0));
    }
  }

  private static void knocks() {
    T.says("At the counter somebody asks to see another one's rows: who knocks is REFUSED.");
    Sessionstore x = plain();
    T.same("none", 0, x.house(5));
    T.same("the first", 1, x.knock());
    T.same("the second", 2, x.knock());
    T.same("told", 2, x.house(5));
    T.same("rows", "1,1;2,2", x.table(0));
    x.crash(false);
    T.same("told while OFF", 2, x.house(5));
    T.same("while OFF", 3, x.knock());
    x.recover(-1);
    T.same("ever", 4, x.knock());
    T.same("told", 4, x.house(5));
  }
}
