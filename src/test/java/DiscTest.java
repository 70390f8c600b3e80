/** Promises 12 to 19, 40, 43 and 45: versions, records, and what is found behind a crash. */
public final class DiscTest {
  private static final Tests T = new Tests("DiscTest");

  public static void main(String[] args) {
    records();
    promise12Lazy();
    promise13Safe();
    promise14Pages();
    promise15Checkpoint();
    promise16Crash();
    promise17Recover();
    whatIsFound();
    promise18Vacuum();
    vacuumAndCrash();
    promise19Knock();
    promise40Versions();
    promise43Low();
    promise45Disc();
    T.end();
  }

  /** T0 with the rows 1,1 and 2,2, by the commits 1 and 2. */
  private static Sessionstore plain() {
    Sessionstore x = new Sessionstore();
    Tests.must(x, 0, "create T0 ( c0 , c1 )");
    Tests.must(x, 0, "insert T0 values ( 1 , 1 )");
    Tests.must(x, 0, "insert T0 values ( 2 , 2 )");
    return x;
  }

  private static void records(Sessionstore x, String what, int all, int safe) {
    T.same(what, all + " " + safe, x.disc(0) + " " + x.disc(1));
  }

  private static void records() {
    Sessionstore x = plain();
    records(x, "two inserts", 4, 4);
    x.begin(0, 0);
    Tests.must(x, 0, "update T0 set c0 = c0 + 1");
    records(x, "old and new keys, each once", 7, 4);
    Tests.run(x, 0, "insert T0 values ( 2 , 2 )");
    records(x, "none with an error", 7, 4);
    Tests.must(x, 0, "update T0 set c1 = c1");
    Tests.must(x, 0, "select c0 from T0");
    records(x, "also if they are as they were", 9, 4);
    x.rollback(0);
    records(x, "taken back", 14, 4);
    x.begin(0, 0);
    Tests.must(x, 0, "insert T0 values ( 9 , 9 )");
    Tests.must(x, 0, "delete T0 where c0 = 9");
    x.commit(0);
    records(x, "without a number", 16, 4);
    Tests.must(x, 0, "index T0 c1");
    records(x, "index makes all safe", 16, 16);
    x.begin(0, 1);
    Tests.must(x, 0, "update T0 set c1 = 5 where c0 = 1");
    Tests.must(x, 1, "update T0 set c1 = 5 where c0 = 2");
    records(x, "a commit", 19, 19);
    Tests.run(x, 0, "update T0 set c1 = 5 where c0 = 2");
    records(x, "conflict takes back", 20, 19);
  }

  private static void promise12Lazy() {
    Sessionstore x = plain();
    T.same("were not", 0, x.lazy(true));
    T.same("were", 1, x.lazy(true));
    Tests.must(x, 0, "delete T0 where c0 = 1");
    records(x, "not safe", 6, 4);
    T.same("crash", 1, x.crash(false));
    T.fails("off", Tests.STATE, x, () -> x.lazy(false));
    x.recover(-1);
    T.same("lazy still", 1, x.disc(3));
    T.same("were, behind a crash", 1, x.lazy(false));
    Tests.must(x, 0, "delete T0 where c0 = 1");
    records(x, "safe", 2, 2);
  }

  private static void promise13Safe() {
    Sessionstore x = plain();
    x.lazy(true);
    Tests.must(x, 0, "update T0 set c1 = 3");
    T.same("one", 5, x.safe(1));
    T.same("the commit is not", 2, x.disc(5));
    T.same("two", 7, x.safe(2));
    T.same("the commit is", 3, x.disc(5));
    T.same("all", 7, x.safe(Integer.MAX_VALUE));
    Tests.must(x, 0, "update T0 set c1 = 4");
    Tests.must(x, 0, "update T0 set c1 = 5");
    T.same("the first of two", 11, x.safe(4));
    T.same("its commit", 4, x.disc(5));
    T.fails("none", Tests.ARGUMENT, x, () -> x.safe(0));
    x.crash(false);
    T.fails("off", Tests.STATE, x, () -> x.safe(1));
    x.recover(-1);
    T.same("rows", "1,4;2,4", x.table(0));
  }

  private static void promise14Pages() {
    Sessionstore x = plain();
    x.lazy(true);
    Tests.must(x, 0, "update T0 set c1 = 3");
    long before = x.digest();
    T.same("one", 4, x.pages(1));
    T.same("twenty", 4, x.pages(20));
    T.same("nothing hangs on it", before, x.digest());
    T.fails("none", Tests.ARGUMENT, x, () -> x.pages(0));
    T.fails("21", Tests.ARGUMENT, x, () -> x.pages(21));
    x.crash(true);
    T.fails("off", Tests.STATE, x, () -> x.pages(1));
    x.recover(-1);
    T.same("written ahead, and not found", "1,1;2,2", x.table(0));
  }

  private static void promise15Checkpoint() {
    Sessionstore x = plain();
    x.lazy(true);
    Tests.must(x, 0, "update T0 set c1 = 3");
    x.begin(1, 0);
    Tests.must(x, 1, "update T0 set c1 = 9");
    T.same("all", 9, x.checkpoint());
    T.same("none is lost", 0, x.crash(false));
    T.fails("off", Tests.STATE, x, () -> x.checkpoint());
    x.recover(-1);
    T.same("what is not committed is not found", "1,3;2,3", x.table(0));
  }

  private static void promise16Crash() {
    Sessionstore x = plain();
    x.begin(0, 0);
    Tests.must(x, 0, "delete T0 where c0 = 1");
    Tests.run(x, 1, "delete T0");
    Tests.must(x, 2, "select c0 from T0");
    x.sample(3, 0, 0, 0);
    x.begin(3, 2);
    T.same("nothing lost", 0, x.crash(true));
    T.fails("off", Tests.STATE, x, () -> x.crash(false));
    T.same("off", 0, x.disc(2));
    x.recover(-1);
    T.same("no transactions", 0, x.house(3));
    T.same("no waits", "", x.waits());
    T.same("nothing typed", "", x.typed(3));
    T.same("no results", 0, x.result(2, 0));
    T.same("no locks", -1, x.writer(0, 1));
    x.lazy(true);
    for (int i = 0; i < 3; i++) {
      Tests.must(x, 0, "update T0 set c1 = c1 + 1");
    }
    T.same("three lost", 3, x.crash(false));
  }

  private static void promise17Recover() {
    Sessionstore x = plain();
    T.fails("on", Tests.STATE, x, () -> x.recover(-1));
    T.fails("on, -2 steps", Tests.ARGUMENT, x, () -> x.recover(-2));
    x.lazy(true);
    Tests.must(x, 0, "delete T0 where c0 = 1");
    x.crash(false);
    T.fails("100 steps", Tests.ARGUMENT, x, () -> x.recover(100));
    T.same("last commit", 2, x.recover(99));
    T.same("on", 1, x.disc(2));
    T.same("rows", "1,1;2,2", x.table(0));
    T.same("transactions are numbered on", 4, x.begin(0, 0));
    x.rollback(0);
    Tests.must(x, 0, "delete T0 where c0 = 1");
    T.same("commit numbers go on", "1:1,1 3:gone", x.versions(0, 1));
    x.crash(false);
    T.same("broken off at once", 2, x.recover(0));
    T.same("the same is found", "1,1;2,2", x.table(0));
  }

  private static void whatIsFound() {
    Sessionstore x = plain();
    Tests.must(x, 0, "create T1 ( c0 , c1 refs T0 ) check c1 < 9");
    Tests.must(x, 0, "index T1 c1");
    Tests.must(x, 0, "update T0 set c1 = 7 where c0 = 2");
    Tests.must(x, 0, "insert T0 values ( 3 , 3 )");
    Tests.must(x, 0, "delete T0 where c0 = 3");
    x.begin(1, 2);
    Tests.must(x, 1, "insert T1 values ( 1 , 2 )");
    x.commit(1);
    x.lazy(true);
    x.begin(1, 2);
    Tests.must(x, 1, "insert T1 values ( 2 , 2 )");
    x.commit(1);
    x.begin(1, 2);
    x.commit(1);
    T.same("order", "6 7 8", x.order());
    T.same("lost", 1, x.crash(false));
    T.same("sound while off", true, x.isSound());
    T.same("last commit", 6, x.recover(3));
    T.same("order without the lost one", "6 8", x.order());
    T.same("one version each", "3:2,7", x.versions(0, 2));
    T.same("none of what is gone", "", x.versions(0, 3));
    T.same("versions", 3, x.house(2));
    T.same("tables stay", "create T1 ( c0 , c1 refs T0 ) check c1 < 9", x.made(1));
    T.same("indexes stay", 1, x.ofColumn(1, 1, 2));
    T.same("checks stay", -17, Tests.run(x, 0, "insert T1 values ( 5 , 9 )"));
    T.same("rows", "1,2", x.table(1));
  }

  private static void promise18Vacuum() {
    Sessionstore x = plain();
    T.same("nothing", 0, x.vacuum());
    Tests.must(x, 0, "update T0 set c1 = 3 where c0 = 1");
    x.begin(1, 1);
    Tests.must(x, 0, "update T0 set c1 = 4 where c0 = 1");
    Tests.must(x, 0, "delete T0 where c0 = 2");
    Tests.must(x, 0, "insert T0 values ( 2 , 9 )");
    T.same("ahead of the snapshot", 1, x.vacuum());
    T.same("versions", "3:1,3 4:1,4", x.versions(0, 1));
    T.same("versions", "2:2,2 5:gone 6:2,9", x.versions(0, 2));
    T.same("it sees the same", "1,3;2,2", x.seen(1, 0));
    T.same("again", 0, x.vacuum());
    x.rollback(1);
    T.same("all old ones", 3, x.vacuum());
    T.same("versions", "6:2,9", x.versions(0, 2));
    Tests.must(x, 0, "delete T0 where c0 = 2");
    T.same("a gone one goes itself", 2, x.vacuum());
    T.same("versions", "", x.versions(0, 2));
    T.same("in all", 1, x.house(2));
    x.begin(1, 0);
    Tests.must(x, 0, "update T0 set c1 = 5 where c0 = 1");
    T.same("only a snapshot holds", 1, x.vacuum());
    x.crash(false);
    T.fails("off", Tests.STATE, x, () -> x.vacuum());
  }

  private static void vacuumAndCrash() {
    Sessionstore x = plain();
    x.lazy(true);
    Tests.must(x, 0, "update T0 set c1 = 8 where c0 = 1");
    Tests.must(x, 0, "delete T0 where c0 = 2");
    T.same("vacuum", 3, x.vacuum());
    T.same("sound", true, x.isSound());
    T.same("lost", 2, x.crash(false));
    x.recover(-1);
    T.same("the old ones are found again", "1,1;2,2", x.table(0));
    T.same("versions", "1:1,1", x.versions(0, 1));
    T.same("sound", true, x.isSound());
  }

  private static void promise19Knock() {
    Sessionstore x = new Sessionstore();
    T.same("first", 1, x.knock());
    x.crash(false);
    T.same("while off", 2, x.knock());
    T.same("told", 2, x.house(5));
    x.recover(-1);
    T.same("ever", 3, x.knock());
  }

  private static void promise40Versions() {
    Sessionstore x = plain();
    Tests.must(x, 0, "update T0 set c1 = null where c0 = 1");
    Tests.must(x, 0, "delete T0 where c0 = 1");
    Tests.must(x, 0, "insert T0 values ( 1 , 99 )");
    T.same("versions", "1:1,1 3:1,- 4:gone 5:1,99", x.versions(0, 1));
    T.same("none", "", x.versions(0, 0));
    T.same("no table", "", x.versions(3, 0));
    T.fails("table 4", Tests.OUT, x, () -> x.versions(4, 20));
    T.fails("key 20", Tests.ARGUMENT, x, () -> x.versions(0, 20));
    T.fails("key -1", Tests.ARGUMENT, x, () -> x.versions(0, -1));
    Tests.must(x, 0, "drop T0");
    Tests.must(x, 0, "create T0 ( c0 )");
    T.same("dropped", "", x.versions(0, 1));
    x.crash(false);
    T.fails("off", Tests.STATE, x, () -> x.versions(0, 0));
  }

  private static void promise43Low() {
    Sessionstore x = plain();
    T.same("the last one", 2, x.low());
    x.begin(0, 1);
    Tests.must(x, 2, "update T0 set c1 = 3");
    x.begin(1, 1);
    x.begin(3, 2);
    T.same("the least", 2, x.low());
    x.commit(0);
    T.same("then", 3, x.low());
    Tests.must(x, 2, "update T0 set c1 = 3");
    x.rollback(1);
    T.same("not of other levels", 4, x.low());
    x.crash(false);
    T.fails("off", Tests.STATE, x, () -> x.low());
  }

  private static void promise45Disc() {
    Sessionstore x = new Sessionstore();
    T.same("nothing committed", 0, x.disc(4) + x.disc(5));
    x = plain();
    x.lazy(true);
    Tests.must(x, 0, "delete T0 where c0 = 1");
    x.begin(0, 0);
    Tests.must(x, 0, "delete T0 where c0 = 2");
    String told = "";
    for (int i = 0; i <= 5; i++) {
      told += x.disc(i) + " ";
    }
    T.same("on", "7 4 1 1 3 2 ", told);
    x.crash(true);
    told = "";
    for (int i = 0; i <= 5; i++) {
      told += x.disc(i) + " ";
    }
    T.same("off", "7 4 0 1 2 2 ", told);
    Sessionstore off = x;
    T.fails("what 6", Tests.ARGUMENT, off, () -> off.disc(6));
    T.fails("what -1", Tests.ARGUMENT, off, () -> off.disc(-1));
    x.recover(-1);
    told = "";
    for (int i = 0; i <= 5; i++) {
      told += x.disc(i) + " ";
    }
    T.same("recovered", "0 0 1 1 2 2 ", told);
  }
}
