/** The sentences of section 1: VALUES and their bounds, CONDITIONS, the order with NULL, what always holds. */
public final class ValuesTest {
  private static final Tests T = new Tests("ValuesTest");

  public static void main(String[] args) {
    bounds();
    nullOperands();
    beyondTheBounds();
    division();
    nothingIsAnError();
    comparisons();
    notAndOr();
    isNull();
    in();
    notIn();
    exists();
    orderWithNull();
    tablesAndColumns();
    indexes();
    keysAlways();
    alwaysAtCommit();
    sets();
    T.end();
  }

  /** T0 with the one row 1,9999. */
  private static Sessionstore one() {
    Sessionstore x = new Sessionstore();
    Tests.must(x, 0, "create T0 ( c0 , c1 )");
    Tests.must(x, 0, "insert T0 values ( 1 , 99 * 99 + 99 + 99 )");
    return x;
  }

  private static void expr(Sessionstore x, String expr, String want) {
    T.same(expr, want, Tests.ask(x, 0, "select " + expr + " from T0"));
  }

  /** T, F or U: what a condition is of the one row. */
  private static void cond(Sessionstore x, String cond, String want) {
    int isTrue = Tests.run(x, 0, "select 1 from T0 where " + cond);
    int isFalse = Tests.run(x, 0, "select 1 from T0 where not [ " + cond + " ]");
    String got = isTrue == 1 && isFalse == 0 ? "T" : isTrue == 0 && isFalse == 1 ? "F" : "U";
    T.same(cond, want, isTrue + isFalse > 1 || isTrue < 0 || isFalse < 0 ? "no condition" : got);
  }

  private static void bounds() {
    T.says("A VALUE is NULL or a whole number from -9999 to 9999.");
    Sessionstore x = one();
    expr(x, "c1", "9999");
    expr(x, "c1 + 1", "-");
    expr(x, "0 - c1", "-9999");
    expr(x, "0 - c1 - 1", "-");
    Tests.must(x, 0, "insert T0 values ( 2 , - 99 * 99 - 99 - 99 )");
    Tests.must(x, 0, "insert T0 values ( 3 , - 99 * 99 - 99 - 99 - 1 )");
    Tests.must(x, 0, "insert T0 values ( 4 , 99 * 99 + 99 + 99 + 1 )");
    T.same("kept as they are told", "1,9999;2,-9999;3,-;4,-", x.table(0));
    T.same("found at the upper bound", 2, x.found(0, 1, 9999));
    T.same("found at the lower bound", 4, x.found(0, 1, -9999));
    T.same("the cell of NULL", -99999, x.cell(0, 3, 1));
    T.same("the cell at the lower bound", -9999, x.cell(0, 2, 1));
  }

  private static void nullOperands() {
    T.says("is NULL, if one of both is NULL,");
    Sessionstore x = one();
    expr(x, "null + 1 , 1 + null , null + null", "-,-,-");
    expr(x, "null - 1 , 1 - null , null - null", "-,-,-");
    expr(x, "null * 0 , 0 * null , null * null", "-,-,-");
    expr(x, "null / 1 , 1 / null , null / null , null / 0", "-,-,-,-");
    expr(x, "- null , - - null", "-,-");
    expr(x, "1 + null - null", "-");
  }

  private static void beyondTheBounds() {
    T.says("What is reckoned (a + b, a - b, a * b, a / b, rounded towards 0, and - a) is NULL, if one of both is NULL,"
        + " if it lies beyond these bounds, or if b is 0 in a / b.");
    Sessionstore x = one();
    expr(x, "c1 - 1 + 1", "9999");
    expr(x, "c1 + 1 - 1", "-");
    expr(x, "- c1 + 1 - 1", "-9999");
    expr(x, "- c1 - 1 + 1", "-");
    expr(x, "c1 * 1 , c1 * - 1 , - c1 * - 1", "9999,-9999,9999");
    expr(x, "99 * 101 , - 99 * 101 , 99 * - 101".replace("101", "( 99 + 2 )"), "9999,-9999,-9999");
    expr(x, "50 * ( 99 + 99 + 2 ) , - 50 * ( 99 + 99 + 2 )", "-,-");
    expr(x, "c1 * c1 , - c1 * c1 , c1 * 2", "-,-,-");
    expr(x, "c1 + c1 , - c1 - c1", "-,-");
    expr(x, "c1 + c1 - c1", "-");
    expr(x, "c1 - c1 + c1", "9999");
    expr(x, "- c1 , - - c1 , - - - c1", "-9999,9999,-9999");
    expr(x, "- 0 , - c0 + 1", "0,0");
  }

  private static void division() {
    T.says("a / b, rounded towards 0,");
    Sessionstore x = one();
    expr(x, "7 / 2 , - 7 / 2 , 7 / - 2 , - 7 / - 2", "3,-3,-3,3");
    expr(x, "1 / 2 , - 1 / 2 , 1 / - 2", "0,0,0");
    expr(x, "6 / 3 , - 6 / 3 , 0 / 5 , 0 / - 5", "2,-2,0,0");
    expr(x, "c1 / c1 , c1 / - c1 , c1 / 1 , - c1 / 1", "1,-1,9999,-9999");
    expr(x, "9 / 2 * 2 , 9 * 2 / 2", "8,9");
    T.says("or if b is 0 in a / b.");
    expr(x, "1 / 0 , 0 / 0 , - 1 / 0", "-,-,-");
    expr(x, "1 / ( c0 - 1 ) , 1 / c0", "-,1");
  }

  private static void nothingIsAnError() {
    T.says("So nothing that is reckoned is an ERROR.");
    Sessionstore x = one();
    T.same("beyond the bounds in an update", 1, Tests.run(x, 0, "update T0 set c1 = c1 * c1 / 0"));
    T.same("it is NULL", -99999, x.cell(0, 1, 1));
    T.same("in where", 0, Tests.run(x, 0, "delete T0 where c0 / 0 = 1"));
    T.same("the KEY beyond the bounds is NULL, and only so an ERROR", -15,
        Tests.run(x, 0, "insert T0 values ( 99 * 99 * 99 , 1 )"));
  }

  private static void comparisons() {
    T.says("CONDITIONS are TRUE, FALSE or UNKNOWN. a = b, a <> b, a < b, a <= b, a > b, a >= b: UNKNOWN, if one of both"
        + " is NULL.");
    String[] signs = {"=", "<>", "<", "<=", ">", ">="};
    String[] below = {"F", "T", "T", "T", "F", "F"};
    String[] like = {"T", "F", "F", "T", "F", "T"};
    String[] above = {"F", "T", "F", "F", "T", "T"};
    for (int i = 0; i < signs.length; i++) {
      Sessionstore x = one();
      cond(x, "4 " + signs[i] + " 5", below[i]);
      cond(x, "5 " + signs[i] + " 5", like[i]);
      cond(x, "6 " + signs[i] + " 5", above[i]);
      cond(x, "- c1 " + signs[i] + " c1", below[i]);
      cond(x, "null " + signs[i] + " 5", "U");
      cond(x, "5 " + signs[i] + " null", "U");
      cond(x, "null " + signs[i] + " null", "U");
      cond(x, "c1 + 1 " + signs[i] + " c1", "U");
    }
  }

  private static final String[] THREE = {"1 = 1", "1 = 2", "1 = null"};
  private static final String[] NAMES = {"T", "F", "U"};

  private static void notAndOr() {
    String[] opposite = {"F", "T", "U"};
    T.says("not: TRUE and FALSE change, UNKNOWN stays.");
    Sessionstore x = one();
    for (int i = 0; i < 3; i++) {
      cond(x, "not " + THREE[i], opposite[i]);
      cond(x, "not not " + THREE[i], NAMES[i]);
    }
    String[] and = {"T", "F", "U", "F", "F", "F", "U", "F", "U"};
    String[] or = {"T", "T", "T", "T", "F", "U", "T", "U", "U"};
    for (int i = 0; i < 9; i++) {
      Sessionstore y = one();
      T.says("and: FALSE, if one is FALSE, otherwise UNKNOWN, if one is, otherwise TRUE.");
      cond(y, THREE[i / 3] + " and " + THREE[i % 3], and[i]);
      cond(y, "1 = 1 and " + THREE[i / 3] + " and " + THREE[i % 3], and[i]);
      T.says("or: TRUE, if one is TRUE, otherwise UNKNOWN, if one is, otherwise FALSE.");
      cond(y, THREE[i / 3] + " or " + THREE[i % 3], or[i]);
      cond(y, "1 = 2 or " + THREE[i / 3] + " or " + THREE[i % 3], or[i]);
    }
  }

  private static void isNull() {
    T.says("\"is null\": TRUE or FALSE.");
    Sessionstore x = one();
    cond(x, "null is null", "T");
    cond(x, "0 is null", "F");
    cond(x, "null is not null", "F");
    cond(x, "0 is not null", "T");
    cond(x, "c1 + 1 is null", "T");
    cond(x, "1 / 0 is not null", "F");
    cond(x, "( select c0 from T0 where c0 = 2 ) is null", "T");
  }

  private static void in() {
    T.says("\"in\": FALSE with nothing in the row; TRUE, if a = one of it is TRUE; otherwise UNKNOWN, if one of these"
        + " is; otherwise FALSE");
    Sessionstore x = one();
    cond(x, "1 in ( select c0 from T0 where c0 = 2 )", "F");
    cond(x, "null in ( select c0 from T0 where c0 = 2 )", "F");
    cond(x, "null in ( select c0 from T0 limit 0 )", "F");
    cond(x, "1 in ( 1 )", "T");
    cond(x, "1 in ( null , 1 )", "T");
    cond(x, "1 in ( 1 , null )", "T");
    cond(x, "1 in ( 2 , 1 , 3 )", "T");
    cond(x, "2 in ( 1 , null )", "U");
    cond(x, "2 in ( null , 1 )", "U");
    cond(x, "2 in ( null )", "U");
    cond(x, "null in ( 1 )", "U");
    cond(x, "null in ( null )", "U");
    cond(x, "2 in ( 1 )", "F");
    cond(x, "2 in ( 1 , 3 )", "F");
    cond(x, "1 in ( select c0 from T0 )", "T");
    cond(x, "2 in ( select c0 from T0 )", "F");
    cond(x, "2 in ( select null from T0 )", "U");
    cond(x, "null in ( select c0 from T0 )", "U");
  }

  private static void notIn() {
    T.says("(\"not in\": not of that)");
    Sessionstore x = one();
    cond(x, "1 not in ( select c0 from T0 limit 0 )", "T");
    cond(x, "null not in ( select c0 from T0 limit 0 )", "T");
    cond(x, "1 not in ( 1 , null )", "F");
    cond(x, "2 not in ( 1 , null )", "U");
    cond(x, "null not in ( 1 )", "U");
    cond(x, "2 not in ( 1 )", "T");
    cond(x, "2 not in ( select null from T0 )", "U");
    cond(x, "not 2 not in ( 1 )", "F");
  }

  private static void exists() {
    T.says("\"exists\": whether there is a ROW.");
    Sessionstore x = one();
    cond(x, "exists ( select c0 from T0 )", "T");
    cond(x, "exists ( select null from T0 )", "T");
    cond(x, "exists ( select c0 from T0 where c0 = 2 )", "F");
    cond(x, "exists ( select c0 from T0 where c0 = null )", "F");
    cond(x, "exists ( select c0 from T0 limit 0 )", "F");
    cond(x, "exists ( select c0 from T0 limit 1 )", "T");
    cond(x, "exists ( select count ( * ) from T0 where c0 = 2 )", "T");
    cond(x, "exists ( select c0 from T0 where c0 = 2 group c0 )", "F");
  }

  private static void orderWithNull() {
    T.says("Where VALUES are put in order, NULL comes ahead of all numbers, and is like NULL.");
    Sessionstore x = one();
    Tests.must(x, 0, "insert T0 values ( 2 , null )");
    Tests.must(x, 0, "insert T0 values ( 3 , - 99 * 99 - 99 - 99 )");
    Tests.must(x, 0, "insert T0 values ( 4 , null )");
    Tests.must(x, 0, "insert T0 values ( 5 , 0 )");
    T.same("order", "2;4;3;5;1", Tests.ask(x, 0, "select c0 from T0 order c1"));
    T.same("desc", "1;5;3;2;4", Tests.ask(x, 0, "select c0 from T0 order c1 desc"));
    T.same("then the next item", "4;2;3;5;1", Tests.ask(x, 0, "select c0 from T0 order c1 , c0 desc"));
    T.same("desc, then the next item", "1;5;3;4;2", Tests.ask(x, 0, "select c0 from T0 order c1 desc , c0 desc"));
    T.same("one GROUP of NULL", "9999,1;-,2;-9999,1;0,1",
        Tests.ask(x, 0, "select c1 , count ( * ) from T0 group c1"));
  }

  private static void tablesAndColumns() {
    T.says("There are four names of TABLES, T0 to T3; a TABLE that was created has 1 to 4 COLUMNS, c0 to c3, some of"
        + " which are NOTNULL, or REFER to another TABLE, and maybe a CHECK.");
    Sessionstore x = new Sessionstore();
    T.same("one column", 0, Tests.run(x, 0, "create T3 ( c0 )"));
    T.same("one", 1, x.ofTable(3, 0));
    T.same("four columns", 0, Tests.run(x, 0, "create T0 ( c0 , c1 notnull , c2 refs T3 , c3 notnull refs T3 ) check c3 > 0"));
    T.same("four", 4, x.ofTable(0, 0));
    T.same("no column", -11, Tests.run(x, 0, "create T1 ( )"));
    T.same("five columns", -12, Tests.run(x, 0, "create T1 ( c0 , c1 , c2 , c3 , c3 )"));
    T.same("notnull", "0101", "" + x.ofColumn(0, 0, 0) + x.ofColumn(0, 1, 0) + x.ofColumn(0, 2, 0) + x.ofColumn(0, 3, 0));
    T.same("refers", "-1-133", "" + x.ofColumn(0, 0, 1) + x.ofColumn(0, 1, 1) + x.ofColumn(0, 2, 1) + x.ofColumn(0, 3, 1));
    T.same("check", "10", "" + x.ofTable(0, 5) + x.ofTable(3, 5));
    T.same("T1", 0, Tests.run(x, 0, "create T1 ( c0 )"));
    T.same("T2", 0, Tests.run(x, 0, "create T2 ( c0 )"));
    T.same("all four", 4, x.house(0));
    T.says("c0 is its KEY. A ROW has a VALUE for each COLUMN.");
    Tests.must(x, 0, "insert T3 values ( 7 )");
    Tests.must(x, 0, "insert T0 values ( 19 , 0 , null , 7 )");
    T.same("a row of one", "7", x.table(3));
    T.same("a row of four", "19,0,-,7", x.table(0));
    T.same("its key", 7, x.cell(0, 19, 3));
  }

  private static void indexes() {
    T.says("For each TABLE and COLUMN there may be an INDEX.");
    Sessionstore x = new Sessionstore();
    for (int t = 0; t < 4; t++) {
      Tests.must(x, 0, "create T" + t + " ( c0 , c1 , c2 , c3 )");
      for (int c = 0; c < 4; c++) {
        T.same("no index yet", 0, x.ofColumn(t, c, 2));
        T.same("index", 0, Tests.run(x, 0, "index T" + t + " c" + c));
        T.same("now", 1, x.ofColumn(t, c, 2));
      }
    }
    T.same("all", 16, x.house(7));
  }

  private static void keysAlways() {
    T.says("the KEY of each ROW is 0 to 19, and no other ROW of its TABLE has it;");
    Sessionstore x = one();
    T.same("0", 1, Tests.run(x, 0, "insert T0 values ( 0 , 1 )"));
    T.same("19", 1, Tests.run(x, 0, "insert T0 values ( 19 , 1 )"));
    T.same("20", -15, Tests.run(x, 0, "insert T0 values ( 20 , 1 )"));
    T.same("-1", -15, Tests.run(x, 0, "insert T0 values ( - 1 , 1 )"));
    T.same("null", -15, Tests.run(x, 0, "insert T0 values ( null , 1 )"));
    T.same("another row has it", -18, Tests.run(x, 0, "insert T0 values ( 19 , 2 )"));
    T.same("beyond by an update", -15, Tests.run(x, 0, "update T0 set c0 = c0 + 1 where c0 = 19"));
    T.same("below by an update", -15, Tests.run(x, 0, "update T0 set c0 = c0 - 1 where c0 = 0"));
    T.same("rows", "0,1;1,9999;19,1", x.table(0));
    for (int k = 2; k < 19; k++) {
      Tests.must(x, 0, "insert T0 values ( " + k + " , null )");
    }
    T.same("twenty rows", 20, x.ofTable(0, 1));
    T.same("one of twenty beyond 19", -15, Tests.run(x, 0, "update T0 set c0 = c0 + 1"));
    T.same("all the other way round", 20, Tests.run(x, 0, "update T0 set c0 = 19 - c0"));
    T.same("the last is the first", 9999, x.cell(0, 18, 1));
  }

  private static void alwaysAtCommit() {
    T.says("It always holds (for all that is COMMITTED, and for what a transaction would COMMIT as it is):");
    Sessionstore x = new Sessionstore();
    Tests.must(x, 0, "create T0 ( c0 , c1 notnull ) check c1 < 5");
    Tests.must(x, 0, "create T1 ( c0 , c1 refs T0 )");
    x.begin(0, 0);
    T.says("what is NOTNULL is not NULL;");
    T.same("null in a transaction", -16, Tests.run(x, 0, "insert T0 values ( 1 , null )"));
    Tests.must(x, 0, "insert T0 values ( 1 , 1 )");
    T.same("null by an update", -16, Tests.run(x, 0, "update T0 set c1 = null"));
    T.says("no CHECK is FALSE of a ROW;");
    T.same("false in a transaction", -17, Tests.run(x, 0, "insert T0 values ( 2 , 5 )"));
    T.same("false by an update", -17, Tests.run(x, 0, "update T0 set c1 = 5"));
    T.says("a VALUE of a COLUMN that REFERS to a TABLE is NULL, or the KEY of a ROW there.");
    T.same("null", 1, Tests.run(x, 0, "insert T1 values ( 1 , null )"));
    T.same("a row of its own", 1, Tests.run(x, 0, "insert T1 values ( 2 , 1 )"));
    T.same("no row", -20, Tests.run(x, 0, "insert T1 values ( 3 , 2 )"));
    T.same("the row would go", -20, Tests.run(x, 0, "delete T0"));
    T.same("nothing is left of the errors", "1,-;2,1", x.seen(0, 1));
    T.same("commit", 1, x.commit(0));
    T.same("sound", true, x.isSound());
  }

  private static void sets() {
    T.says("A set of numbers is told as the sum of 2^k for each number k in it.");
    Sessionstore x = new Sessionstore();
    Tests.must(x, 0, "create T0 ( c0 , c1 )");
    T.same("of none", 0, x.found(0, 0, 0));
    x.begin(0, 2);
    Tests.must(x, 0, "insert T0 values ( 0 , 1 )");
    Tests.must(x, 0, "insert T0 values ( 19 , 1 )");
    T.same("of 0 and 19", 524289, x.changed(0, 0));
    T.same("as locks", 524289, x.locks(0, 0, true));
    Tests.must(x, 0, "select c0 from T0");
    T.same("of all", 1048575, x.locks(0, 0, false));
    x.savepoint(0, 0);
    x.savepoint(0, 2);
    T.same("of 0 and 2", 5, x.ofSession(0, 5));
    T.says("NONE is -1.");
    T.same("no level", -1, x.ofSession(1, 0));
    T.same("no place", -1, x.result(1, 4));
    T.same("refers to none", -1, x.ofColumn(0, 0, 1));
    T.same("no writer", -1, x.writer(0, 1));
  }
}
