/** Promises 6 to 11, 26 to 32 and 44: transactions, their levels, locks and waits. */
public final class SessionTest {
  private static final Tests T = new Tests("SessionTest");

  public static void main(String[] args) {
    promise6Begin();
    promise7Commit();
    promise8Rollback();
    promise9And10Savepoints();
    promise11GiveUp();
    levels();
    conflicts();
    serialReads();
    limitedReads();
    secondStep();
    errorsAndLocks();
    goingOn();
    rings();
    ringOfThree();
    lostAcrossSessions();
    promise26OfSession();
    promise27And29Locks();
    promise28Changed();
    promise30And31Seen();
    promise32Tried();
    promise44Waits();
    T.end();
  }

  /** T0 ( c0 , c1 ) with 1,10 2,20 3,30, and T1 ( c0 , c1 refs T0 ) without rows; by three transactions. */
  private static Sessionstore plain() {
    Sessionstore x = new Sessionstore();
    Tests.must(x, 0, "create T0 ( c0 , c1 )");
    Tests.must(x, 0, "create T1 ( c0 , c1 refs T0 )");
    Tests.must(x, 0, "insert T0 values ( 1 , 10 )");
    Tests.must(x, 0, "insert T0 values ( 2 , 20 )");
    Tests.must(x, 0, "insert T0 values ( 3 , 30 )");
    return x;
  }

  private static int set(int... keys) {
    int set = 0;
    for (int key : keys) {
      set |= 1 << key;
    }
    return set;
  }

  private static final int ALL = (1 << 20) - 1;

  private static void run(Sessionstore x, int session, String text, int want) {
    T.same(session + ": " + text, want, Tests.run(x, session, text));
  }

  private static void promise6Begin() {
    Sessionstore x = new Sessionstore();
    T.same("first", 1, x.begin(2, 2));
    T.same("second", 2, x.begin(0, 0));
    T.fails("it has one", Tests.STATE, x, () -> x.begin(2, 0));
    T.fails("session 4", Tests.OUT, x, () -> x.begin(4, 3));
    T.fails("level 3", Tests.ARGUMENT, x, () -> x.begin(2, 3));
    T.fails("level -1", Tests.ARGUMENT, x, () -> x.begin(1, -1));
    x.rollback(2);
    T.same("numbers go on", 3, x.begin(2, 1));
    x.crash(false);
    T.fails("off", Tests.STATE, x, () -> x.begin(0, 0));
    x.recover(-1);
    T.same("also behind a crash", 4, x.begin(0, 0));
  }

  private static void promise7Commit() {
    Sessionstore x = plain();
    T.fails("without one", Tests.STATE, x, () -> x.commit(0));
    T.fails("session 4", Tests.OUT, x, () -> x.commit(4));
    x.begin(0, 0);
    T.same("nothing changed", 0, x.commit(0));
    x.begin(0, 0);
    run(x, 0, "insert T0 values ( 5 , 5 )", 1);
    run(x, 0, "delete T0 where c0 = 5", 1);
    T.same("gone where no row was", 0, x.commit(0));
    T.same("no version", "", x.versions(0, 5));
    x.begin(0, 0);
    run(x, 0, "update T0 set c1 = c1", 3);
    T.same("the same values", 4, x.commit(0));
    T.same("versions", "1:1,10 4:1,10", x.versions(0, 1));
    x.begin(0, 0);
    run(x, 0, "delete T0 where c0 = 1", 1);
    run(x, 0, "insert T0 values ( 1 , 11 )", 1);
    run(x, 0, "delete T0 where c0 = 2", 1);
    T.same("commit", 5, x.commit(0));
    T.same("a row", "1:1,10 4:1,10 5:1,11", x.versions(0, 1));
    T.same("gone", "2:2,20 4:2,20 5:gone", x.versions(0, 2));
    x.begin(0, 0);
    x.begin(1, 0);
    run(x, 1, "delete T0", 2);
    run(x, 0, "delete T0", -2);
    T.fails("waiting", Tests.STATE, x, () -> x.commit(0));
    x.crash(false);
    T.fails("off", Tests.STATE, x, () -> x.commit(0));
  }

  private static void promise8Rollback() {
    Sessionstore x = plain();
    T.fails("without one", Tests.STATE, x, () -> x.rollback(0));
    T.fails("session -1", Tests.OUT, x, () -> x.rollback(-1));
    x.begin(0, 0);
    run(x, 0, "update T0 set c1 = 1", 3);
    run(x, 0, "update T0 set c0 = 9 where c0 = 3", 1);
    int records = x.disc(0);
    T.same("changes", 5, x.rollback(0));
    T.same("records", records + 5, x.disc(0));
    T.same("rows", "1,10;2,20;3,30", x.table(0));
    T.same("result stays", 1, x.result(0, 0));
    x.begin(0, 0);
    x.begin(1, 0);
    run(x, 1, "delete T0 where c0 = 1", 1);
    run(x, 0, "delete T0 where c0 = 2", 1);
    run(x, 0, "delete T0", -2);
    T.same("while waiting", 1, x.rollback(0));
    T.same("no result", 0, x.result(0, 0));
    T.same("no wait", 0, x.ofSession(0, 1));
    run(x, 0, "delete T0", -2);
    T.same("its own", 0, x.rollback(0));
    T.same("no transaction", 0, x.ofSession(0, 2));
    x.crash(false);
    T.fails("off", Tests.STATE, x, () -> x.rollback(0));
  }

  private static void promise9And10Savepoints() {
    Sessionstore x = plain();
    T.fails("savepoint without one", Tests.STATE, x, () -> x.savepoint(0, 0));
    T.fails("back without one", Tests.STATE, x, () -> x.back(0, 0));
    x.begin(0, 0);
    T.fails("savepoint 3", Tests.ARGUMENT, x, () -> x.savepoint(0, 3));
    T.fails("savepoint of session 4", Tests.OUT, x, () -> x.savepoint(4, 3));
    T.fails("back -1", Tests.ARGUMENT, x, () -> x.back(0, -1));
    T.fails("back of session 4", Tests.OUT, x, () -> x.back(4, -1));
    T.fails("not set", Tests.STATE, x, () -> x.back(0, 0));
    T.same("nothing changed", 0, x.savepoint(0, 0));
    run(x, 0, "update T0 set c1 = 1 where c0 = 1", 1);
    T.same("one", 1, x.savepoint(0, 1));
    run(x, 0, "update T0 set c1 = 2", 3);
    run(x, 0, "insert T0 values ( 9 , 9 )", 1);
    run(x, 0, "delete T0 where c0 = 9", 1);
    T.same("also put in and deleted", 4, x.savepoint(0, 2));
    T.same("set", 7, x.ofSession(0, 5));
    T.same("back to 1", 5, x.back(0, 1));
    T.same("2 is gone", 3, x.ofSession(0, 5));
    T.same("rows", "1,1;2,20;3,30", x.seen(0, 0));
    T.same("locks stay", set(1, 2, 3, 9), x.locks(0, 0, true));
    T.same("again", 0, x.back(0, 1));
    T.same("set anew, behind 1", 1, x.savepoint(0, 0));
    T.same("back to 1 takes 0", 0, x.back(0, 1));
    T.same("set", 2, x.ofSession(0, 5));
    run(x, 0, "update T0 set c1 = 7", 3);
    int records = x.disc(0);
    T.same("back", 3, x.back(0, 1));
    T.same("records", records + 3, x.disc(0));
    T.same("taken back already", 1, x.rollback(0));
    x.begin(0, 0);
    T.same("none is left", 0, x.ofSession(0, 5));
    x.begin(1, 0);
    run(x, 1, "delete T0", 3);
    run(x, 0, "delete T0", -2);
    T.fails("savepoint waiting", Tests.STATE, x, () -> x.savepoint(0, 0));
    T.fails("back waiting", Tests.STATE, x, () -> x.back(0, 0));
    x.crash(false);
    T.fails("savepoint off", Tests.STATE, x, () -> x.savepoint(0, 0));
    T.fails("back off", Tests.STATE, x, () -> x.back(0, 0));
  }

  private static void promise11GiveUp() {
    Sessionstore x = plain();
    T.fails("not waiting", Tests.STATE, x, () -> x.giveUp(0));
    T.fails("session 4", Tests.OUT, x, () -> x.giveUp(4));
    x.begin(0, 0);
    run(x, 0, "update T0 set c1 = 1 where c0 = 1", 1);
    run(x, 1, "delete T0", -2);
    T.same("its own", 5, x.giveUp(1));
    T.same("is rolled back", 0, x.ofSession(1, 2));
    T.same("error", 12, x.result(1, 3));
    T.same("place", -1, x.result(1, 4));
    x.begin(1, 2);
    run(x, 1, "delete T0", -2);
    T.same("another one", 6, x.giveUp(1));
    T.same("stays", 6, x.ofSession(1, 2));
    T.same("waits no more", 0, x.ofSession(1, 1));
    x.crash(false);
    T.fails("off", Tests.STATE, x, () -> x.giveUp(1));
  }

  private static void levels() {
    Sessionstore x = plain();
    x.begin(0, 0);
    x.begin(1, 1);
    x.begin(2, 2);
    run(x, 3, "update T0 set c1 = 11 where c0 = 1", 1);
    run(x, 3, "insert T0 values ( 4 , 40 )", 1);
    T.same("latest", "1,11;2,20;3,30;4,40", x.seen(0, 0));
    T.same("snapshot", "1,10;2,20;3,30", x.seen(1, 0));
    T.same("serial", "1,11;2,20;3,30;4,40", x.seen(2, 0));
    run(x, 1, "update T0 set c1 = 5 where c0 = 2", 1);
    T.same("own changes", "1,10;2,5;3,30", x.seen(1, 0));
    T.same("not of others", "1,11;2,20;3,30;4,40", x.seen(0, 0));
    T.same("a query", "2", Tests.ask(x, 1, "select c0 from T0 where c1 = 5"));
    T.same("no locks by it", 0, x.locks(1, 0, false));
  }

  private static void conflicts() {
    Sessionstore x = plain();
    x.begin(0, 1);
    run(x, 0, "update T0 set c1 = 1 where c0 = 3", 1);
    run(x, 1, "update T0 set c1 = 11 where c0 = 1", 1);
    run(x, 0, "insert T0 values ( 1 , 1 )", -18);
    int records = x.disc(0);
    run(x, 0, "delete T0 where c0 = 1", -19);
    T.same("error", 9, x.result(0, 3));
    T.same("place", -1, x.result(0, 4));
    T.same("rolled back", 0, x.ofSession(0, 2));
    T.same("its change is taken back", records + 1, x.disc(0));
    x.begin(0, 1);
    run(x, 1, "insert T0 values ( 5 , 5 )", 1);
    run(x, 1, "delete T0 where c0 = 5", 1);
    run(x, 0, "insert T0 values ( 5 , 6 )", -19);
    x.begin(0, 1);
    run(x, 1, "insert T0 values ( 6 , 6 )", 1);
    run(x, 0, "insert T0 values ( 6 , 6 )", -19);
    x.begin(0, 1);
    run(x, 1, "delete T0 where c0 = 3", 1);
    run(x, 0, "insert T1 values ( 1 , 3 )", -20);
    T.same("lost is no conflict", 1, x.ofSession(0, 0));
    run(x, 0, "update T0 set c0 = 99 where c0 = 3", -15);
    run(x, 0, "update T0 set c1 = 1 where c0 = 2", 1);
    T.same("others do not matter", 9, x.commit(0));
    x.begin(0, 1);
    x.begin(1, 0);
    run(x, 1, "update T0 set c1 = 7 where c0 = 2", 1);
    run(x, 0, "update T0 set c1 = 8 where c0 = 2", -2);
    x.commit(1);
    T.same("behind the wait", 9, x.result(0, 3));
  }

  private static void serialReads() {
    Sessionstore x = plain();
    x.begin(0, 2);
    run(x, 0, "select c0 from T0", 3);
    T.same("all keys", ALL, x.locks(0, 0, false));
    T.same("of this table", 0, x.locks(0, 1, false));
    run(x, 1, "update T0 set c1 = 1 where c0 = 1", -2);
    run(x, 2, "select c0 from T0", 3);
    x.begin(2, 2);
    run(x, 2, "select c0 from T0", 3);
    T.same("for both", set(0, 2), x.ofSession(1, 7));
    x.commit(0);
    T.same("one let go", set(2), x.ofSession(1, 7));
    x.commit(2);
    T.same("done", 1, x.result(1, 0));
    x.begin(0, 2);
    run(x, 0, "insert T0 values ( 9 , 9 )", 1);
    T.same("no reads by values", 0, x.locks(0, 0, false));
    run(x, 0, "delete T0 where c0 = 9", 1);
    T.same("its key", set(9), x.locks(0, 0, false));
    T.same("and all that refer", ALL, x.locks(0, 1, false));
    x.rollback(0);
    x.begin(0, 2);
    run(x, 0, "update T0 set c1 = 3 where c0 = 1", 1);
    T.same("c0 is not set", 0, x.locks(0, 1, false));
    run(x, 0, "update T0 set c0 = c0 where c0 = 1", 1);
    T.same("c0 is set", ALL, x.locks(0, 1, false));
    x.rollback(0);
    x.begin(0, 2);
    x.begin(1, 0);
    run(x, 1, "insert T1 values ( 5 , 1 )", 1);
    run(x, 0, "delete T0 where c0 = 2", -2);
    x.rollback(1);
    T.same("done", 1, x.result(0, 0));
  }

  private static void reads(String text, int t0, int t1) {
    Sessionstore x = plain();
    x.begin(0, 2);
    Tests.run(x, 0, text);
    T.same(text + " reads of T0", t0, x.locks(0, 0, false));
    T.same(text + " reads of T1", t1, x.locks(0, 1, false));
  }

  private static void limitedReads() {
    reads("select * from T0 where c0 = 5", set(5), 0);
    reads("select * from T0 where a c0 >= 17", set(17, 18, 19), 0);
    reads("select * from T0 where c0 > 17 and c1 = 1 and c0 <> 18", set(19), 0);
    reads("select * from T0 where c0 < 2 and c0 <= 0", set(0), 0);
    reads("select * from T0 where c0 > 50", 0, 0);
    reads("select * from T0 where c0 = 5 or c0 = 6", ALL, 0);
    reads("select * from T0 where [ c0 = 5 ]", ALL, 0);
    reads("select * from T0 where [ c0 = 5 and c1 = 1 ]", ALL, 0);
    reads("select * from T0 where [ c0 > 5 ] and c0 < 2", set(0, 1), 0);
    reads("select * from T0 where not c0 <> 5", ALL, 0);
    reads("select * from T0 where 5 = c0", ALL, 0);
    reads("select * from T0 where ( c0 ) = 5", ALL, 0);
    reads("select * from T0 where c0 = ( 5 )", ALL, 0);
    reads("select * from T0 where c0 = 2 + 3", ALL, 0);
    reads("select * from T0 where c0 = - 5", ALL, 0);
    reads("select * from T0 where c1 = 5", ALL, 0);
    reads("select * from T0 join T1 on b c0 = 4 where a c0 = 5", set(5), ALL);
    reads("select * from T0 join T1 on c0 = 4 where b c0 = 5", ALL, ALL);
    reads("select * from T0 join T0 on b c0 = 4 where c0 = 5", ALL, 0);
    reads("select * from T1 where c0 = 5 and exists ( select 1 from T0 where c0 = 1 )", ALL, set(5));
    reads("select * from T1 where c0 = 5 and c1 in ( select c0 from T1 where c0 = 3 )", 0, ALL);
    reads("insert T1 select c0 , c0 from T0 where c0 = 3", set(3), 0);
    reads("update T1 set c1 = 1 where c0 = 3", 0, set(3));
    reads("update T1 set c1 = ( select max ( c0 ) from T0 where c0 = 1 ) where c0 = 3", ALL, set(3));
    reads("delete T1 where c0 = 3 and c1 = 2", 0, set(3));
    reads("delete T0", ALL, ALL);
  }

  private static void secondStep() {
    Sessionstore x = plain();
    x.begin(0, 0);
    run(x, 0, "insert T1 values ( 4 , 2 )", 1);
    T.same("reads what it refers to", set(2), x.locks(0, 0, false));
    T.same("writes its key", set(4), x.locks(0, 1, true));
    run(x, 1, "delete T0 where c0 = 2", -2);
    run(x, 2, "update T0 set c1 = 5 where c0 = 2", -2);
    run(x, 3, "insert T1 values ( 5 , 2 )", 1);
    x.rollback(0);
    T.same("refused, as it is referred to now", 10, x.result(1, 3));
    T.same("done", 1, x.result(2, 0));
    x.begin(0, 0);
    run(x, 0, "update T0 set c0 = c0 + 10 where c0 = 1", 1);
    T.same("old and new", set(1, 11), x.locks(0, 0, true));
    run(x, 1, "insert T0 values ( 11 , 0 )", -2);
    run(x, 2, "insert T1 values ( 9 , 11 )", -2);
    x.commit(0);
    T.same("double", 8, x.result(1, 3));
    T.same("has its row", 1, x.result(2, 0));
  }

  private static void errorsAndLocks() {
    Sessionstore x = plain();
    x.begin(0, 0);
    run(x, 0, "insert T0 values ( 1 , 1 )", -18);
    T.same("none at 0", 0, x.locks(0, 0, true));
    run(x, 0, "insert T1 values ( 1 , 7 )", -20);
    T.same("no reads at 0", 0, x.locks(0, 0, false));
    x.begin(1, 1);
    run(x, 1, "insert T0 values ( 1 , 1 )", -18);
    T.same("none at 1", 0, x.locks(1, 0, true));
    x.begin(2, 2);
    run(x, 2, "insert T0 values ( 1 , 1 )", -18);
    T.same("at 2 it stays", set(1), x.locks(2, 0, true));
    run(x, 2, "insert T1 values ( 40 , 7 )", -15);
    T.same("also what it refers to", set(7), x.locks(2, 0, false));
    T.same("no key beyond 19", 0, x.locks(2, 1, true));
    run(x, 2, "select c3 from T0", -12);
    T.same("not by a name", set(7), x.locks(2, 0, false));
    run(x, 0, "insert T0 values ( 1 , 1 )", -2);
  }

  private static void goingOn() {
    Sessionstore x = plain();
    x.begin(0, 0);
    run(x, 0, "update T0 set c1 = 0", 3);
    run(x, 2, "update T0 set c1 = c1 + 2 where c0 = 1", -2);
    run(x, 1, "update T0 set c1 = c1 * 2 where c0 = 1", -2);
    run(x, 3, "delete T0 where c1 = 0", 0);
    T.same("waits", "2>0 1>0", x.waits());
    x.commit(0);
    T.same("the first one first", "1,4;2,0;3,0", x.table(0));
    T.same("numbers", "1:1,10 4:1,0 5:1,2 6:1,4", x.versions(0, 1));
    x.begin(0, 0);
    run(x, 0, "update T0 set c1 = 9 where c0 = 1", 1);
    x.begin(1, 0);
    run(x, 1, "update T0 set c1 = 8 where c1 < 9", -2);
    run(x, 2, "update T0 set c1 = 7 where c0 = 2", 1);
    T.same("no lock for itself", 7, x.cell(0, 2, 1));
    x.commit(0);
    T.same("anew at that moment", 2, x.result(1, 1));
    T.same("its keys", set(2, 3), x.changed(1, 0));
  }

  private static void rings() {
    Sessionstore x = plain();
    x.begin(0, 0);
    x.begin(1, 0);
    run(x, 0, "update T0 set c1 = 1 where c0 = 1", 1);
    run(x, 1, "update T0 set c1 = 2 where c0 = 2", 1);
    run(x, 1, "update T0 set c1 = 3 where c0 = 1", -2);
    T.same("before", "1>0", x.waits());
    run(x, 0, "update T0 set c1 = 4 where c0 = 2", 1);
    T.same("the greater number gives way", 11, x.result(1, 3));
    T.same("it is rolled back", 0, x.ofSession(1, 2));
    T.same("the other one did its statement", "1,1;2,4;3,30", x.seen(0, 0));
    x.commit(0);
    x.begin(1, 0);
    x.begin(0, 0);
    run(x, 0, "update T0 set c1 = 1 where c0 = 1", 1);
    run(x, 1, "update T0 set c1 = 2 where c0 = 2", 1);
    run(x, 1, "update T0 set c1 = 3 where c0 = 1", -2);
    run(x, 0, "update T0 set c1 = 4 where c0 = 2", -21);
    T.same("then that one goes on", 1, x.result(1, 0));
    T.same("place", -1, x.result(0, 4));
  }

  private static void ringOfThree() {
    Sessionstore x = plain();
    x.begin(0, 2);
    x.begin(1, 0);
    x.begin(2, 0);
    run(x, 0, "select c1 from T0 where c0 = 1", 1);
    run(x, 1, "update T0 set c1 = 1 where c0 = 2", 1);
    run(x, 2, "update T0 set c1 = 1 where c0 = 3", 1);
    run(x, 3, "update T0 set c1 = 0 where c0 = 2", -2);
    run(x, 0, "select c1 from T0 where c0 = 2", -2);
    run(x, 1, "select c1 from T0 where c0 = 3", 1);
    run(x, 1, "update T0 set c1 = 2 where c0 = 3", -2);
    T.same("no ring yet", "3>1 0>1 1>2", x.waits());
    run(x, 2, "update T0 set c1 = 2 where c0 = 1", -21);
    T.same("only who is in the ring", "3>1 0>1", x.waits());
    T.same("went on", 1, x.result(1, 0));
    x.commit(1);
    T.same("in sequence", "1,10;2,0;3,2", x.table(0));
    T.same("read behind it", "0", x.answer(0));
  }

  private static void lostAcrossSessions() {
    Sessionstore x = plain();
    x.begin(0, 1);
    run(x, 1, "insert T1 values ( 1 , 2 )", 1);
    run(x, 0, "delete T0 where c0 = 2", -20);
    run(x, 0, "delete T0 where c0 = 1", 1);
    run(x, 0, "insert T1 values ( 2 , 1 )", -20);
    run(x, 0, "insert T0 values ( 8 , 8 )", 1);
    run(x, 0, "insert T1 values ( 2 , 8 )", 1);
    run(x, 0, "delete T0 where c0 = 8", -20);
    run(x, 0, "delete T1 where c0 = 2", 1);
    run(x, 0, "delete T0 where c0 = 8", 1);
    T.same("commit", 5, x.commit(0));
    T.same("sound", true, x.isSound());
  }

  private static void promise26OfSession() {
    Sessionstore x = plain();
    T.same("no level", -1, x.ofSession(0, 0));
    T.same("no number", 0, x.ofSession(0, 2));
    x.begin(0, 2);
    x.begin(1, 1);
    T.same("level", 2, x.ofSession(0, 0));
    T.same("number", 5, x.ofSession(1, 2));
    T.same("began", 3, x.ofSession(1, 3));
    run(x, 0, "update T0 set c0 = 9 where c0 = 1", 1);
    T.same("keys", 2, x.ofSession(0, 4));
    x.savepoint(0, 2);
    T.same("savepoints", 4, x.ofSession(0, 5));
    run(x, 2, "delete T0", -2);
    T.same("waits", 1, x.ofSession(2, 1));
    T.same("for", 1, x.ofSession(2, 7));
    T.same("at level", 0, x.ofSession(2, 0));
    T.same("not waiting", 0, x.ofSession(0, 1));
    x.say(2, 0, 0, 0, -1, -1);
    T.same("typed", 3, x.ofSession(2, 6));
    x.commit(0);
    T.same("none is left", 0, x.ofSession(0, 3) + x.ofSession(0, 4) + x.ofSession(0, 5));
    T.fails("session 4", Tests.OUT, x, () -> x.ofSession(4, 8));
    T.fails("what 8", Tests.ARGUMENT, x, () -> x.ofSession(0, 8));
    T.fails("what -1", Tests.ARGUMENT, x, () -> x.ofSession(0, -1));
    x.crash(false);
    T.fails("off", Tests.STATE, x, () -> x.ofSession(0, 0));
  }

  private static void promise27And29Locks() {
    Sessionstore x = plain();
    x.begin(3, 2);
    run(x, 3, "update T0 set c1 = 1 where c0 < 2", 1);
    T.same("reads", set(0, 1), x.locks(3, 0, false));
    T.same("writes", set(1), x.locks(3, 0, true));
    T.same("writer", 3, x.writer(0, 1));
    T.same("no writer", -1, x.writer(0, 0));
    T.same("no table", -1, x.writer(3, 0));
    T.same("no transaction", 0, x.locks(0, 0, true));
    T.fails("locks of session 4", Tests.OUT, x, () -> x.locks(4, 0, true));
    T.fails("locks of table 4", Tests.OUT, x, () -> x.locks(0, 4, true));
    T.fails("writer of table -1", Tests.OUT, x, () -> x.writer(-1, 20));
    T.fails("writer of key 20", Tests.ARGUMENT, x, () -> x.writer(0, 20));
    T.fails("writer of key -1", Tests.ARGUMENT, x, () -> x.writer(0, -1));
    x.commit(3);
    T.same("let go", 0, x.locks(3, 0, false) + x.locks(3, 0, true));
    x.crash(false);
    T.fails("locks off", Tests.STATE, x, () -> x.locks(0, 0, true));
    T.fails("writer off", Tests.STATE, x, () -> x.writer(0, 0));
  }

  private static void promise28Changed() {
    Sessionstore x = plain();
    T.same("without one", 0, x.changed(0, 0));
    x.begin(0, 0);
    run(x, 0, "update T0 set c0 = 7 where c0 = 3", 1);
    run(x, 0, "insert T0 values ( 9 , 9 )", 1);
    run(x, 0, "delete T0 where c0 = 9", 1);
    run(x, 0, "insert T1 values ( 4 , 7 )", 1);
    T.same("of T0", set(3, 7, 9), x.changed(0, 0));
    T.same("of T1", set(4), x.changed(0, 1));
    T.same("of T2", 0, x.changed(0, 2));
    T.fails("session 4", Tests.OUT, x, () -> x.changed(4, 0));
    T.fails("table 4", Tests.OUT, x, () -> x.changed(0, 4));
    x.crash(false);
    T.fails("off", Tests.STATE, x, () -> x.changed(0, 0));
  }

  private static void promise30And31Seen() {
    Sessionstore x = plain();
    T.same("without one", "1,10;2,20;3,30", x.seen(0, 0));
    T.same("no table", "", x.seen(0, 3));
    T.same("no table, as committed", true, x.seesCommitted(0, 3));
    x.begin(0, 1);
    T.same("as committed", true, x.seesCommitted(0, 0));
    run(x, 1, "update T0 set c1 = 11 where c0 = 1", 1);
    T.same("not as committed", false, x.seesCommitted(0, 0));
    T.same("another table", true, x.seesCommitted(0, 1));
    run(x, 1, "update T0 set c1 = 10 where c0 = 1", 1);
    T.same("as committed again", true, x.seesCommitted(0, 0));
    run(x, 0, "update T0 set c1 = 20 where c0 = 2", 1);
    T.same("the same values", true, x.seesCommitted(0, 0));
    run(x, 0, "delete T0 where c0 = 3", 1);
    T.same("own changes", "1,10;2,20", x.seen(0, 0));
    T.same("own changes count", false, x.seesCommitted(0, 0));
    T.fails("seen of session 4", Tests.OUT, x, () -> x.seen(4, 0));
    T.fails("seen of table 4", Tests.OUT, x, () -> x.seen(0, 4));
    T.fails("sees of session 4", Tests.OUT, x, () -> x.seesCommitted(4, 0));
    T.fails("sees of table -1", Tests.OUT, x, () -> x.seesCommitted(0, -1));
    x.crash(false);
    T.fails("seen off", Tests.STATE, x, () -> x.seen(0, 0));
    T.fails("sees off", Tests.STATE, x, () -> x.seesCommitted(0, 0));
  }

  private static void tried(Sessionstore x, int session, String text, int want) {
    x.wipe(session, 60);
    Tests.type(x, session, text);
    long before = x.digest();
    T.same("tried " + text, want, x.tried(session));
    T.same("tried changes nothing", before, x.digest());
  }

  private static void promise32Tried() {
    Sessionstore x = plain();
    tried(x, 0, "select c0 from T0", 3);
    tried(x, 0, "update T0 set c1 = 1 where c0 > 1", 2);
    tried(x, 0, "insert T0 values ( 5 , 5 )", 1);
    tried(x, 0, "insert T0 values ( 1 , 5 )", -18);
    tried(x, 0, "create T3 ( c0 )", 0);
    tried(x, 0, "create T0 ( c0 )", -14);
    tried(x, 0, "drop T1", 0);
    tried(x, 0, "drop T0", -14);
    tried(x, 0, "index T0 c1", 0);
    tried(x, 0, "select", -11);
    tried(x, 0, "drop T3", -12);
    tried(x, 0, "delete T1 where count ( * ) = 1", -13);
    x.begin(1, 1);
    tried(x, 0, "create T3 ( c0 )", -14);
    run(x, 2, "update T0 set c1 = 1 where c0 = 1", 1);
    tried(x, 1, "delete T0 where c0 = 1", -19);
    T.same("not rolled back", 1, x.ofSession(1, 0));
    x.begin(2, 0);
    run(x, 2, "update T0 set c1 = 2 where c0 = 2", 1);
    tried(x, 0, "delete T0", -2);
    tried(x, 1, "delete T0", -2);
    run(x, 1, "update T0 set c1 = 2 where c0 = 3", 1);
    run(x, 1, "update T0 set c1 = 2 where c0 = 2", -2);
    T.fails("waiting", Tests.STATE, x, () -> x.tried(1));
    tried(x, 2, "update T0 set c1 = 2 where c0 = 3", -2);
    T.fails("session 4", Tests.OUT, x, () -> x.tried(4));
    x.crash(false);
    T.fails("off", Tests.STATE, x, () -> x.tried(0));
  }

  private static void promise44Waits() {
    Sessionstore x = plain();
    T.same("none", "", x.waits());
    x.begin(0, 2);
    x.begin(3, 2);
    run(x, 0, "select c0 from T0", 3);
    run(x, 3, "select c0 from T0", 3);
    run(x, 2, "delete T0", -2);
    run(x, 1, "insert T0 values ( 7 , 7 )", -2);
    T.same("two", "2>0,3 1>0,3", x.waits());
    x.commit(3);
    T.same("now", "2>0 1>0", x.waits());
    x.crash(false);
    T.fails("off", Tests.STATE, x, () -> x.waits());
  }
}
