/**
 * The sentences that tell how many of something there are: what holds of one holds of the first and of the last one
 * as well, be it a TABLE, a COLUMN, a KEY, a SESSION or a TOKEN.
 */
public final class EdgesTest {
  private static final Tests T = new Tests("EdgesTest");
  private static final int ALL = (1 << 20) - 1;

  public static void main(String[] args) {
    T.says("There are four names of TABLES, T0 to T3; a TABLE that was created has 1 to 4 COLUMNS, c0 to c3, some of which"
        + " are NOTNULL, or REFER to another TABLE, and maybe a CHECK.");
    for (int table = 0; table < 4; table++) {
      for (int columns = 1; columns <= 4; columns++) {
        columns(table, columns);
      }
      checks(table);
    }
    for (int table = 0; table < 4; table++) {
      for (int other = 0; other < 4; other++) {
        for (int column = 0; column < 4 && other != table; column++) {
          refers(table, other, column, 0);
          refers(table, other, column, 19);
        }
      }
    }
    byRisingNumbers();
    indexes();
    changes();
    vacuums();
    crashes();
    lowOfEach();
    rings();
    ringOfFour();
    lastTokens();
    lengths();
    deepest();
    T.end();
  }

  private static void run(Sessionstore x, int session, String text, int want) {
    T.same(session + ": " + text, want, Tests.run(x, session, text));
  }

  private static String create(int table, int columns) {
    StringBuilder text = new StringBuilder("create T" + table + " ( c0");
    for (int c = 1; c < columns; c++) {
      text.append(" , c").append(c);
    }
    return text.append(" )").toString();
  }

  /** As values of an insert, or as a ROW. */
  private static String row(int key, int columns, String between) {
    StringBuilder text = new StringBuilder(String.valueOf(key));
    for (int c = 1; c < columns; c++) {
      text.append(between).append(10 * c + 1);
    }
    return text.toString();
  }

  private static void insert(Sessionstore x, int session, int table, int key, int columns) {
    run(x, session, "insert T" + table + " values ( " + row(key, columns, " , ") + " )", 1);
  }

  private static void columns(int table, int columns) {
    Sessionstore x = new Sessionstore();
    String name = "T" + table;
    T.same(name, 0, x.ofTable(table, 0));
    run(x, 3, create(table, columns), 0);
    T.same(name + " has", columns, x.ofTable(table, 0));
    T.same("made", create(table, columns), x.made(table));
    for (int key = 0; key < 20; key++) {
      insert(x, key % 4, table, key, columns);
    }
    insertOff(x, table, columns);
    T.same("first and last", row(0, columns, ",") + "/" + row(19, columns, ","), x.table(table).split(";")[0] + "/"
        + x.table(table).split(";")[19]);
    for (int c = 0; c < columns; c++) {
      T.same("first of c" + c, c == 0 ? 0 : 10 * c + 1, x.cell(table, 0, c));
      T.same("last of c" + c, c == 0 ? 19 : 10 * c + 1, x.cell(table, 19, c));
      T.same("found of c" + c, c == 0 ? 1 << 19 : ALL, x.found(table, c, c == 0 ? 19 : 10 * c + 1));
      run(x, 0, "select count ( * ) from " + name + " where c" + c + " is not null", 1);
      T.same("twenty", "20", x.answer(0));
      run(x, 1, "update " + name + " set c" + c + " = c" + c + " where c0 = 19", 1);
      T.same("as it was", row(19, columns, ","), x.table(table).split(";")[19]);
    }
    for (int c = columns; c < 4; c++) {
      int none = c;
      T.same("no c" + c, "2@5", Tests.fault(x, 0, "select * from " + name + " where c" + c + " = 1"));
      T.fails("cell of c" + c, Tests.OUT, x, () -> x.cell(table, 0, none));
    }
    run(x, 2, "drop " + name, 0);
    T.same("gone", "0 0 0 /", x.ofTable(table, 0) + " " + x.ofTable(table, 1) + " " + x.ofTable(table, 2) + " "
        + x.table(table) + "/" + x.versions(table, 19));
    run(x, 2, create(table, 1), 0);
    T.same("empty", "1 0 0 /", x.ofTable(table, 0) + " " + x.ofTable(table, 1) + " " + x.ofTable(table, 2) + " "
        + x.table(table) + "/" + x.versions(table, 19));
    insert(x, 3, table, 19, 1);
    T.same("anew", "19", x.table(table));
  }

  private static void insertOff(Sessionstore x, int table, int columns) {
    run(x, 0, "insert T" + table + " values ( " + row(20, columns, " , ") + " )", -15);
    run(x, 0, "insert T" + table + " values ( " + row(19, columns, " , ") + " )", -18);
  }

  private static void checks(int table) {
    for (int c = 0; c < 4; c++) {
      Sessionstore x = new Sessionstore();
      String spec = "create T" + table + " ( c0 , c1 , c2 , c3 )";
      run(x, 0, spec.replace("c" + c + " ", "c" + c + " notnull ") + " check c" + c + " < 5", 0);
      for (int k = 0; k < 4; k++) {
        T.same("NOTNULL", k == c ? 1 : 0, x.ofColumn(table, k, 0));
      }
      T.same("CHECK", 1, x.ofTable(table, 5));
      run(x, 0, "insert T" + table + " values ( 4 , 4 , 4 , 4 )", 1);
      run(x, 0, ("insert T" + table + " values ( 3 , " + (c == 1 ? "5" : "4") + " , " + (c == 2 ? "5" : "4") + " , "
          + (c == 3 ? "5" : "4") + " )").replace("3 ,", c == 0 ? "5 ," : "3 ,"), -17);
      run(x, 0, "update T" + table + " set c" + c + " = null", c == 0 ? -15 : -16);
      run(x, 0, "update T" + table + " set c" + (c == 3 ? 2 : 3) + " = null", 1);
    }
  }

  /** A TABLE to which a COLUMN of another one REFERS, with a ROW of that KEY. */
  private static void refers(int table, int other, int column, int key) {
    T.says("a VALUE of a COLUMN that REFERS to a TABLE is NULL, or the KEY of a ROW there.");
    Sessionstore x = new Sessionstore();
    String name = "T" + table;
    run(x, 0, create(table, 4), 0);
    run(x, 0, create(other, 4).replace("c" + column + " ", "c" + column + " refs T" + table + " "), 0);
    T.same("REFERS", table, x.ofColumn(other, column, 1));
    T.same("is REFERRED to", "1 0", x.ofTable(table, 4) + " " + x.ofTable(other, 4));
    insert(x, 0, table, key, 4);
    insert(x, 0, table, 9, 4);
    String[] values = {String.valueOf(key), "null", "null", "null"};
    values[column] = String.valueOf(key);
    String put = "insert T" + other + " values ( " + String.join(" , ", values) + " )";
    run(x, 1, put, 1);
    T.same("REFERS to it", "1 0", x.referring(table, key) + " " + x.referring(table, 9));
    run(x, 2, "delete " + name + " where c0 = " + key, -20);
    run(x, 2, "update " + name + " set c0 = 5 where c0 = " + key, -20);
    run(x, 2, "drop " + name, -14);
    run(x, 3, "update T" + other + " set c" + column + " = 8", -20);
    x.begin(3, 0);
    run(x, 3, "update T" + other + " set c" + column + " = 9", 1);
    T.same("READ lock on what it REFERS to", 1 << 9, x.locks(3, table, false));
    T.same("the other KEY is REFERRED to", "1 0", x.referring(table, key) + " " + x.referring(table, 9));
    x.rollback(3);
    x.begin(3, 2);
    run(x, 3, "delete " + name + " where c0 = 9", 1);
    T.same("READ locks on all that REFER", ALL, x.locks(3, other, false));
    T.same("on its KEY", (1 << 9) + " " + (1 << 9), x.locks(3, table, false) + " " + x.locks(3, table, true));
    T.same("sound", true, x.isSound());
    x.commit(3);
    run(x, 1, "delete T" + other, 1);
    run(x, 2, "delete " + name, 1);
    T.same("none", "/", x.table(table) + "/" + x.table(other));
  }

  private static void byRisingNumbers() {
    T.says("X by X is by rising numbers; of several the first one, or that with the smallest number.");
    Sessionstore x = new Sessionstore();
    run(x, 0, "create T0 ( c0 , c1 )", 0);
    for (int key = 19; key >= 0; key -= 3) {
      run(x, 0, "insert T0 values ( " + key + " , 1 )", 1);
    }
    T.same("ROWS by KEYS", "1,1;4,1;7,1;10,1;13,1;16,1;19,1", x.table(0));
    T.same("seen by KEYS", "1,1;4,1;7,1;10,1;13,1;16,1;19,1", x.seen(3, 0));
    T.same("a query by KEYS", "1;4;7;10;13;16;19", Tests.ask(x, 0, "select c0 from T0"));
    T.same("the first one of several", "1", Tests.ask(x, 0, "select ( select c0 from T0 ) from T0 limit 1"));
    x.begin(3, 0);
    x.begin(2, 2);
    x.begin(1, 2);
    run(x, 2, "select c0 from T0 where c0 = 4", 1);
    run(x, 1, "select c0 from T0 where c0 = 4", 1);
    run(x, 3, "update T0 set c1 = 2 where c0 = 4", -2);
    T.same("for whom it WAITS", "3>1,2", x.waits());
    T.same("the smallest PLACE of several", "2@1", Tests.fault(x, 0, "select c2 , c3 , sum ( sum ( c0 ) ) from T0 where c2 = 1"));
  }

  private static void indexes() {
    T.says("For each TABLE and COLUMN there may be an INDEX.");
    for (int table = 0; table < 4; table++) {
      Sessionstore x = new Sessionstore();
      run(x, 0, create(table, 4), 0);
      for (int c = 3; c >= 0; c--) {
        T.same("none yet", 0, x.ofColumn(table, c, 2));
        run(x, c, "index T" + table + " c" + c, 0);
        run(x, c, "index T" + table + " c" + c, -14);
        T.same("there", 1, x.ofColumn(table, c, 2));
        T.same("so many", (4 - c) + " " + (4 - c), x.ofTable(table, 3) + " " + x.house(7));
      }
      insert(x, 0, table, 19, 4);
      for (int c = 0; c < 4; c++) {
        T.same("by the INDEX", 1 << 19, x.found(table, c, c == 0 ? 19 : 10 * c + 1));
        T.same("by the INDEX none", 0, x.found(table, c, 2));
      }
    }
  }

  private static Sessionstore full() {
    Sessionstore x = new Sessionstore();
    for (int table = 0; table < 4; table++) {
      run(x, 0, create(table, 4), 0);
      insert(x, 0, table, 0, 4);
      insert(x, 0, table, 19, 4);
    }
    return x;
  }

  private static void changes() {
    T.says("What a transaction has changed: for each TABLE and KEY that it wrote (not taken back since) a ROW, or that it is"
        + " GONE. It sees that;");
    for (int table = 0; table < 4; table++) {
      for (int c = 1; c < 4; c++) {
        for (int key = 0; key < 20; key += 19) {
          changes(full(), (table + c) % 4, table, c, key);
        }
      }
    }
  }

  private static void changes(Sessionstore x, int session, int table, int column, int key) {
    int other = (session + 1) % 4;
    String was = x.table(table);
    x.begin(session, 0);
    T.same("none", 0, x.savepoint(session, 0));
    run(x, session, "update T" + table + " set c" + column + " = 77 where c0 = " + key, 1);
    String now = x.seen(session, table);
    T.same("seen", was.split(";")[key / 19].replaceFirst("," + (10 * column + 1) + "(?=,|$)", ",77"), now.split(";")[key / 19]);
    T.same("another one sees", was, x.seen(other, table));
    T.same("sees what is COMMITTED", false, x.seesCommitted(session, table));
    T.same("the other one does", true, x.seesCommitted(other, table));
    T.same("it does elsewhere", true, x.seesCommitted(session, (table + 1) % 4));
    T.same("changed", 1 << key, x.changed(session, table));
    T.same("KEYS that are changed", 1, x.savepoint(session, 2));
    T.same("WRITE lock", session, x.writer(table, key));
    run(x, session, "delete T" + table + " where c0 = " + (19 - key), 1);
    T.same("GONE", now.split(";")[key / 19], x.seen(session, table));
    T.same("changed both", 1 | 1 << 19, x.changed(session, table));
    T.same("KEYS that are changed", 2, x.ofSession(session, 4));
    T.same("taken back", 1, x.back(session, 2));
    T.same("as it was then", now + " " + (1 << key), x.seen(session, table) + " " + x.changed(session, table));
    T.same("KEYS that are changed", 1, x.ofSession(session, 4));
    run(x, session, "delete T" + table + " where c0 = " + key, 1);
    T.same("it is GONE", was.split(";")[1 - key / 19], x.seen(session, table));
    T.same("all taken back", 2, x.back(session, 0));
    T.same("as it was at first", was + " 0", x.seen(session, table) + " " + x.changed(session, table));
    run(x, session, "update T" + table + " set c" + column + " = 77 where c0 = " + key, 1);
    run(x, session, "delete T" + table + " where c0 = " + (19 - key), 1);
    T.same("number", 9, x.commit(session));
    T.same("COMMITTED", now.split(";")[key / 19], x.table(table));
    T.same("VERSION", now.split(";")[key / 19], x.versions(table, key).split(" 9:")[1]);
    T.same("VERSION", "gone", x.versions(table, 19 - key).split(" 9:")[1]);
  }

  private static void vacuums() {
    T.says("of each KEY all VERSIONS ahead of the last one that is not above LOW go, and that one, if it is GONE.");
    Sessionstore x = full();
    for (int table = 0; table < 4; table++) {
      run(x, table, "update T" + table + " set c1 = 5", 2);
      run(x, table, "delete T" + table + " where c0 = 19", 1);
    }
    T.same("one of KEY 0, three of KEY 19, of each TABLE", 16, x.vacuum());
    for (int table = 0; table < 4; table++) {
      T.same("VERSIONS", (9 + 2 * table) + ":0,5,21,31 ", x.versions(table, 0) + " " + x.versions(table, 19));
    }
  }

  private static void crashes() {
    T.says("COMMITTED is what those COMMITS made whose RECORD was SAFE;");
    for (int lost = 0; lost < 4; lost++) {
      Sessionstore x = full();
      for (int table = 0; table < 4; table++) {
        run(x, table, "update T" + table + " set c3 = c3 + 1", 2);
      }
      x.lazy(true);
      run(x, 0, "update T" + lost + " set c3 = 99", 2);
      run(x, 0, "delete T" + lost + " where c0 = 0", 1);
      x.crash(lost % 2 == 0);
      T.same("number", 12, x.recover(lost));
      for (int table = 0; table < 4; table++) {
        T.same("rows", "0,11,21,32;19,11,21,32", x.table(table));
        T.same("VERSIONS", (9 + table) + ":19,11,21,32", x.versions(table, 19));
      }
      x.lazy(false);
      run(x, 3, "delete T" + lost + " where c0 = 0", 1);
      x.crash(true);
      T.same("number", 13, x.recover(-1));
      T.same("GONE", "19,11,21,32", x.table(lost));
      T.same("without a VERSION", "", x.versions(lost, 0));
      run(x, 3, "update T" + lost + " set c3 = c3 + 1 where c0 = 19", 1);
      T.same("another VERSION", (9 + lost) + ":19,11,21,32 14:19,11,21,33", x.versions(lost, 19));
    }
  }

  private static void lowOfEach() {
    T.says("LOW is the least of the COMMIT numbers that were the last ones as transactions of the LEVEL 1 that are open began,"
        + " and of the last one;");
    for (int session = 0; session < 4; session++) {
      Sessionstore x = full();
      x.begin(session, 1);
      run(x, (session + 1) % 4, "update T3 set c1 = 5 where c0 = 0", 1);
      x.begin((session + 2) % 4, 1);
      run(x, (session + 1) % 4, "update T3 set c1 = 6 where c0 = 0", 1);
      T.same("as it began", "8 10", x.low() + " " + x.disc(4));
      T.same("none goes", 0, x.vacuum());
      x.commit(session);
      T.same("as the other one began", 9, x.low());
      x.rollback((session + 2) % 4);
      T.same("the last one", 10, x.low());
    }
  }

  private static void set(Sessionstore x, int session, int key, int want) {
    run(x, session, "update T0 set c1 = c1 + 1 where c0 = " + key, want);
  }

  private static void rings() {
    T.says("of all that are in such rings the one whose transaction has the greatest number GIVES WAY:");
    for (int one = 0; one < 4; one++) {
      for (int other = 0; other < 4; other++) {
        for (int first = 0; first < 2 && other != one; first++) {
          Sessionstore x = full();
          x.begin(one, 0);
          x.begin(other, 0);
          set(x, one, 0, 1);
          set(x, other, 19, 1);
          set(x, first == 0 ? one : other, first == 0 ? 19 : 0, -2);
          set(x, first == 0 ? other : one, first == 0 ? 0 : 19, first == 0 ? -21 : 1);
          T.same("who gave way", "3 11 1", x.result(other, 0) + " " + x.result(other, 3) + " " + x.result(one, 0));
          T.same("and who did not", one, x.writer(0, 19));
        }
      }
    }
  }

  private static void ringOfFour() {
    T.says("if sessions WAIT for each other in a ring (each for who it would have to WAIT for now)");
    for (int last = 0; last < 4; last++) {
      Sessionstore x = new Sessionstore();
      run(x, 0, create(0, 2), 0);
      for (int key = 0; key < 4; key++) {
        insert(x, 0, 0, key, 2);
      }
      for (int i = 1; i <= 4; i++) {
        x.begin((last + i) % 4, 0);
        set(x, (last + i) % 4, (last + i) % 4, 1);
      }
      for (int i = 1; i < 4; i++) {
        set(x, (last + i) % 4, (last + i + 1) % 4, -2);
      }
      set(x, last, (last + 1) % 4, -21);
      T.same("who gave way", 11, x.result(last, 3));
      T.same("who went on", 1, x.result((last + 3) % 4, 0));
      T.same("who waits still", ((last + 1) % 4) + ">" + ((last + 2) % 4) + " " + ((last + 2) % 4) + ">" + ((last + 3) % 4),
          x.waits());
    }
  }

  private static void lastTokens() {
    T.says("A session's TYPED is a row of at most 60 TOKENS.");
    Sessionstore x = full();
    StringBuilder sum = new StringBuilder("select c0");
    for (int i = 0; i < 26; i++) {
      sum.append(" + 0");
    }
    run(x, 0, sum + " from T3 order c0 desc", 2);
    T.same("desc is the last of 59", "19;0", x.answer(0));
    run(x, 0, sum.toString().replaceFirst("c0", "- c0") + " from T3 order c0 desc", 2);
    T.same("desc is the last of 60", "-19;0", x.answer(0));
    run(x, 0, sum + " from T3 order c0 limit 1", 1);
    T.same("the sixtieth is how many", "0", x.answer(0));
    sum.setLength(0);
    sum.append("select 1");
    for (int i = 0; i < 24; i++) {
      sum.append(" + 0");
    }
    x.begin(0, 2);
    run(x, 0, sum + " + 0 + 0 from T3 where c0 = 19", 1);
    T.same("the sixtieth limits the KEYS", 1 << 19, x.locks(0, 3, false));
    x.begin(1, 2);
    run(x, 1, sum + " + - 0 from T3 where c0 = 19", 1);
    T.same("the fifty-ninth limits the KEYS", 1 << 19, x.locks(1, 3, false));
  }

  private static void lengths() {
    T.says("or something follows it;");
    Sessionstore x = full();
    StringBuilder text = new StringBuilder("select c0");
    for (int i = 0; i < 26; i++) {
      text.append(" + 0");
    }
    text.append(" from T3 where 1 = 1");
    Tests.type(x, 0, text.toString());
    T.same("whole", "60 0 -1", x.ofSession(0, 6) + " " + x.fault(0, 0) + " " + x.fault(0, 1));
    for (int left = 59; left >= 0; left--) {
      x.wipe(0, 1);
      boolean isWhole = left == 56;
      T.same("left " + left, isWhole ? 0 : 1, x.fault(0, 0));
      T.same("place of " + left, isWhole ? -1 : left, x.fault(0, 1));
    }
  }

  private static void deepest() {
    T.says("At most four of \"(\", \"[\", not and - (ahead of a factor) may stand inside one another in expr and cond, also with"
        + " those of a query around it;");
    Sessionstore x = full();
    String part = "1 = 2 or 1 = 1 and ";
    String deep = part + "[ " + part + "[ " + part + "[ ";
    String query = "0 + 1 * ( select 1 from T1 where " + part;
    run(x, 0, "select c0 from T0 where " + deep + "1 = " + query + "c0 = 19 ) ] ] ]", 2);
    run(x, 0, "select c0 from T0 where " + deep + "2 = " + query + "c0 = 19 ) ] ] ]", 0);
    run(x, 0, "select c0 from T0 where " + deep + "1 = " + query + "c0 = 18 ) ] ] ]", 0);
    String joins = " from T0 join T1 on 1 = 1 join T2 on 1 = 1 where ";
    run(x, 0, "select count ( * )" + joins + "not not not exists ( select 1" + joins + "a c0 = 3 or b c0 = 0 and c c0 = 18 )", 1);
    T.same("of three in three", "8", x.answer(0));
    run(x, 0, "select count ( * )" + joins + "not not not exists ( select 1" + joins + "a c0 = 3 or b c0 = 0 and c c0 = 19 )", 1);
    T.same("none of three in three", "0", x.answer(0));
    run(x, 0, "select sum ( - ( - c0 + 1 * 2 ) * 3 ) from T0", 1);
    T.same("(0 - 2) * 3 + (19 - 2) * 3", "45", x.answer(0));
    run(x, 0, "update T0 set c1 = - - - - c0 , c2 = ( ( ( ( c3 ) ) ) ) where [ [ [ [ c0 = 19 ] ] ] ]", 1);
    T.same("all of the old ROW", "0,11,21,31;19,19,31,31", x.table(0));
  }
}
