/** Promises 34 to 39, 41, 42 and 46 to 48: what is asked of tables and of the whole. */
public final class TableTest {
  private static final Tests T = new Tests("TableTest");

  public static void main(String[] args) {
    promise34OfTable();
    promise35OfColumn();
    promise36Table();
    promise37Cell();
    promise38Found();
    promise39Referring();
    promise41Made();
    promise42Order();
    promise46House();
    promise47IsSound();
    promise48Digest();
    T.end();
  }

  /** T0 and T1 of the samples; T0 with 1,10,1 2,20,1 3,-,1, T1 with 5,1,2 and 6,1,-. */
  private static Sessionstore plain() {
    Sessionstore x = Tests.samples(0, 1, 2);
    Tests.must(x, 0, "insert T0 values ( 3 , null , 1 )");
    Tests.must(x, 0, "insert T0 values ( 1 , 10 , 1 )");
    Tests.must(x, 0, "insert T0 values ( 2 , 20 , 1 )");
    Tests.must(x, 0, "insert T1 values ( 6 , 1 , null )");
    Tests.must(x, 0, "insert T1 values ( 5 , 1 , 2 )");
    return x;
  }

  private static void promise34OfTable() {
    Sessionstore x = plain();
    Tests.must(x, 0, "update T0 set c1 = 11 where c0 = 1");
    Tests.must(x, 0, "index T0 c2");
    String told = "";
    for (int t = 0; t < 3; t++) {
      for (int i = 0; i <= 5; i++) {
        told += x.ofTable(t, i) + " ";
      }
    }
    T.same("tables", "3 3 4 2 1 1 3 2 2 0 0 0 0 0 0 0 0 0 ", told);
    Tests.must(x, 0, "create T2 ( c0 refs T0 , c1 refs T1 , c2 refs T0 )");
    T.same("columns that refer", 3, x.ofTable(0, 4));
    T.fails("table 4", Tests.OUT, x, () -> x.ofTable(4, 6));
    T.fails("table -1", Tests.OUT, x, () -> x.ofTable(-1, 0));
    T.fails("what 6", Tests.ARGUMENT, x, () -> x.ofTable(0, 6));
    T.fails("what -1", Tests.ARGUMENT, x, () -> x.ofTable(0, -1));
    Tests.must(x, 0, "drop T2");
    Tests.must(x, 0, "drop T1");
    Tests.must(x, 0, "drop T0");
    told = "";
    for (int i = 0; i <= 5; i++) {
      told += x.ofTable(0, i) + " ";
    }
    T.same("dropped", "0 0 0 0 0 0 ", told);
    x.crash(false);
    T.fails("off", Tests.STATE, x, () -> x.ofTable(0, 0));
  }

  private static void promise35OfColumn() {
    Sessionstore x = plain();
    T.same("notnull", "0 0 1", x.ofColumn(0, 0, 0) + " " + x.ofColumn(0, 1, 0) + " " + x.ofColumn(0, 2, 0));
    T.same("refers", "-1 0 -1", x.ofColumn(1, 0, 1) + " " + x.ofColumn(1, 1, 1) + " " + x.ofColumn(1, 2, 1));
    T.same("index", "0 1 0", x.ofColumn(0, 0, 2) + " " + x.ofColumn(0, 1, 2) + " " + x.ofColumn(0, 2, 2));
    T.fails("table 4", Tests.OUT, x, () -> x.ofColumn(4, 0, 3));
    T.fails("no table", Tests.OUT, x, () -> x.ofColumn(2, 0, 0));
    T.fails("column 3", Tests.OUT, x, () -> x.ofColumn(0, 3, 3));
    T.fails("column -1", Tests.OUT, x, () -> x.ofColumn(0, -1, 0));
    T.fails("what 3", Tests.ARGUMENT, x, () -> x.ofColumn(0, 0, 3));
    T.fails("what -1", Tests.ARGUMENT, x, () -> x.ofColumn(0, 0, -1));
    x.crash(false);
    T.fails("off", Tests.STATE, x, () -> x.ofColumn(0, 0, 0));
    T.fails("off, column 3", Tests.OUT, x, () -> x.ofColumn(0, 3, 0));
  }

  private static void promise36Table() {
    Sessionstore x = plain();
    x.begin(1, 0);
    Tests.must(x, 1, "delete T1");
    T.same("committed alone", "5,1,2;6,1,-", x.table(1));
    T.same("by keys", "1,10,1;2,20,1;3,-,1", x.table(0));
    T.same("no table", "", x.table(2));
    T.fails("table 4", Tests.OUT, x, () -> x.table(4));
    x.crash(false);
    T.fails("off", Tests.STATE, x, () -> x.table(0));
  }

  private static void promise37Cell() {
    Sessionstore x = plain();
    T.same("value", 20, x.cell(0, 2, 1));
    T.same("null", -99999, x.cell(0, 3, 1));
    T.same("no row", -88888, x.cell(0, 4, 1));
    T.fails("table 4", Tests.OUT, x, () -> x.cell(4, 20, 0));
    T.fails("no table", Tests.OUT, x, () -> x.cell(2, 1, 0));
    T.fails("column 3", Tests.OUT, x, () -> x.cell(0, 20, 3));
    T.fails("key 20", Tests.ARGUMENT, x, () -> x.cell(0, 20, 0));
    T.fails("key -1", Tests.ARGUMENT, x, () -> x.cell(0, -1, 0));
    x.crash(false);
    T.fails("off", Tests.STATE, x, () -> x.cell(0, 1, 0));
  }

  private static void promise38Found() {
    Sessionstore x = plain();
    Tests.must(x, 0, "update T0 set c1 = 20 where c0 = 1");
    T.same("by the index", 6, x.found(0, 1, 20));
    T.same("without", 96, x.found(1, 1, 1));
    T.same("none", 0, x.found(0, 1, -9999));
    T.same("none", 0, x.found(0, 1, 9999));
    T.fails("no column", Tests.OUT, x, () -> x.found(0, 3, 10000));
    T.fails("10000", Tests.ARGUMENT, x, () -> x.found(0, 1, 10000));
    T.fails("-10000", Tests.ARGUMENT, x, () -> x.found(0, 1, -10000));
    T.fails("null", Tests.ARGUMENT, x, () -> x.found(0, 1, -99999));
    x.crash(false);
    T.fails("off", Tests.STATE, x, () -> x.found(0, 1, 1));
  }

  private static void promise39Referring() {
    Sessionstore x = plain();
    T.same("two", 2, x.referring(0, 1));
    T.same("none", 0, x.referring(0, 2));
    T.same("not of null", 0, x.referring(0, 0));
    Tests.must(x, 0, "create T2 ( c0 refs T0 , c1 refs T0 )");
    Tests.must(x, 0, "insert T2 values ( 1 , 1 )");
    T.same("values, not rows", 4, x.referring(0, 1));
    T.same("no table", 0, x.referring(3, 1));
    T.fails("table 4", Tests.OUT, x, () -> x.referring(4, 20));
    T.fails("key 20", Tests.ARGUMENT, x, () -> x.referring(0, 20));
    T.fails("key -1", Tests.ARGUMENT, x, () -> x.referring(0, -1));
    x.crash(false);
    T.fails("off", Tests.STATE, x, () -> x.referring(0, 1));
  }

  private static void promise41Made() {
    Sessionstore x = plain();
    T.same("T0", "create T0 ( c0 , c1 , c2 notnull ) check c1 <= 50", x.made(0));
    T.same("none", "", x.made(2));
    T.fails("table -1", Tests.OUT, x, () -> x.made(-1));
    Tests.must(x, 0, "drop T1");
    T.same("dropped", "", x.made(1));
    Tests.must(x, 0, "create T1 ( c0 )");
    T.same("anew", "create T1 ( c0 )", x.made(1));
    x.crash(false);
    T.fails("off", Tests.STATE, x, () -> x.made(0));
  }

  private static void promise42Order() {
    Sessionstore x = plain();
    T.same("none", "", x.order());
    x.begin(0, 2);
    x.begin(1, 2);
    x.begin(2, 1);
    Tests.must(x, 1, "update T1 set c2 = 1 where c0 = 6");
    T.same("open", "", x.order());
    x.commit(1);
    x.commit(2);
    x.commit(0);
    x.begin(0, 2);
    x.rollback(0);
    T.same("as they committed", "7 6", x.order());
    Tests.must(x, 0, "create T2 ( c0 )");
    T.same("a create takes none", "7 6", x.order());
    x.crash(false);
    T.fails("off", Tests.STATE, x, () -> x.order());
  }

  private static void promise46House() {
    Sessionstore x = plain();
    x.begin(0, 0);
    Tests.must(x, 0, "update T0 set c1 = 0 where c0 = 1");
    Tests.run(x, 1, "delete T0 where c0 = 1");
    x.knock();
    String told = "";
    for (int i = 0; i <= 7; i++) {
      told += x.house(i) + " ";
    }
    T.same("house", "2 5 5 2 1 1 7 1 ", told);
    T.fails("what 8", Tests.ARGUMENT, x, () -> x.house(8));
    T.fails("what -1", Tests.ARGUMENT, x, () -> x.house(-1));
    x.crash(false);
    T.same("refused, while off", 1, x.house(5));
    T.fails("off", Tests.STATE, x, () -> x.house(0));
    T.fails("off", Tests.STATE, x, () -> x.house(6));
    T.fails("off, what 8", Tests.ARGUMENT, x, () -> x.house(8));
  }

  private static void promise47IsSound() {
    Sessionstore x = new Sessionstore();
    T.same("new", true, x.isSound());
    x = plain();
    for (int i = 0; i < 8; i++) {
      x.begin(0, 2);
      x.begin(1, 2);
      Tests.must(x, 0, "select c0 , count ( * ) from T1 group c0");
      Tests.must(x, 0, "select c1 from T0 where c0 = 1");
      x.savepoint(0, 1);
      Tests.must(x, 0, "update T0 set c1 = c1 - 1 where c0 = 2");
      Tests.run(x, 0, "insert T0 values ( 2 , 2 , 2 )");
      x.back(0, 1);
      Tests.run(x, 1, "update T0 set c1 = c1 + 1 where c0 = 1");
      Tests.must(x, 0, "update T0 set c2 = c2 + 1 where c0 = 3");
      T.same("with waits", true, x.isSound());
      x.commit(0);
      x.commit(1);
      x.sample(2, 14, 0, 0);
      T.same("sound", true, x.isSound());
    }
    T.same("order", 16, x.order().split(" ").length);
    x.lazy(true);
    Tests.must(x, 0, "delete T1 where c0 = 5");
    T.same("lazy", true, x.isSound());
    x.crash(true);
    T.same("off", true, x.isSound());
    x.recover(1);
    T.same("recovered", true, x.isSound());
  }

  private static long next(long d, long v) {
    return d * 31 + v;
  }

  private static long session(Sessionstore x, long start, int session) {
    long d = start;
    for (int i = 0; i <= 7; i++) {
      d = next(d, x.ofSession(session, i));
    }
    for (int i = 0; i <= 4; i++) {
      d = next(d, x.result(session, i));
    }
    d = next(d, x.answer(session).length());
    for (int t = 0; t < 4; t++) {
      d = next(d, x.locks(session, t, false));
      d = next(d, x.locks(session, t, true));
    }
    return d;
  }

  private static long table(Sessionstore x, long start, int table) {
    long d = start;
    for (int i = 0; i <= 5; i++) {
      d = next(d, x.ofTable(table, i));
    }
    int columns = x.ofTable(table, 0);
    for (int c = 0; c < columns; c++) {
      for (int i = 0; i <= 2; i++) {
        d = next(d, x.ofColumn(table, c, i));
      }
    }
    for (int k = 0; k < 20; k++) {
      for (int c = 0; c < columns && x.cell(table, k, 0) != -88888; c++) {
        d = next(d, x.cell(table, k, c));
      }
    }
    for (int k = 0; k < 20; k++) {
      d = next(d, x.versions(table, k).length());
    }
    return d;
  }

  private static long told(Sessionstore x) {
    long d = 7602;
    for (int i = 0; i <= 5; i++) {
      d = next(d, x.disc(i));
    }
    if (x.disc(2) == 1) {
      for (int i = 0; i <= 7; i++) {
        d = next(d, x.house(i));
      }
      for (int s = 0; s < 4; s++) {
        d = session(x, d, s);
      }
      for (int t = 0; t < 4; t++) {
        d = table(x, d, t);
      }
      d = next(d, x.order().length());
      d = next(d, x.waits().length());
    }
    return next(d, x.isSound() ? 1 : 0);
  }

  /** An object behind so many steps; each is asked for once alone, as 512 calls are soon made. */
  private static Sessionstore behind(int steps) {
    Sessionstore x = plain();
    if (steps > 0) {
      x.begin(0, 2);
      Tests.must(x, 0, "select c0 , c1 from T0");
      Tests.must(x, 0, "update T1 set c2 = null where c0 = 5");
      x.savepoint(0, 1);
      Tests.run(x, 1, "delete T0");
      Tests.run(x, 2, "select c0 from");
      x.sample(3, 9, 1, 2);
    }
    if (steps > 1) {
      x.commit(0);
    }
    if (steps > 2) {
      x.crash(false);
    }
    if (steps > 3) {
      x.recover(-1);
    }
    if (steps > 4) {
      Tests.must(x, 0, "create T3 ( c0 , c1 )");
      Tests.must(x, 0, "insert T3 values ( 19 , null )");
      x.begin(1, 2);
      Tests.must(x, 1, "select * from T3");
      Tests.run(x, 2, "delete T3");
    }
    if (steps > 5) {
      x.commit(1);
    }
    return x;
  }

  private static void promise48Digest() {
    T.promise(48, "for each v in this order: disc() of 0 to 5; while ON: house() of 0 to 7; SESSION by SESSION ofSession() of 0 to"
        + " 7, result() of 0 to 4, the length of answer(), TABLE by TABLE locks() of READ, then of WRITE; TABLE by TABLE ofTable()"
        + " of 0 to 5, COLUMN by COLUMN ofColumn() of 0 to 2, ROW by ROW that is COMMITTED its VALUES (-99999 for NULL), KEY by"
        + " KEY the length of versions(); the lengths of order() and waits(); at last 1 if isSound(), otherwise 0.");
    T.same("new", told(new Sessionstore()), new Sessionstore().digest());
    for (int steps = 0; steps <= 6; steps++) {
      T.same("behind " + steps + " steps", told(behind(steps)), behind(steps).digest());
    }
  }
}
