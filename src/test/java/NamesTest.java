/** The sentences of section 2 on names and on what is misplaced: the ERRORS 2 and 3, and their PLACES. */
public final class NamesTest {
  private static final Tests T = new Tests("NamesTest");

  public static void main(String[] args) {
    sources();
    outerRefs();
    tablesThatThereAreNot();
    refsOfCreate();
    sourcesThatThereAreNot();
    sourcesInOn();
    columnsThatThereAreNot();
    nothingAround();
    columnsOfSetAndIndex();
    columnsOfCreate();
    aggregates();
    aggregatesWithinOneAnother();
    grouped();
    refsInGrouped();
    outerRefsInGrouped();
    outerInGroup();
    queriesInQueries();
    queriesInCheckAndValues();
    queriesWithMoreThanOne();
    numberOfValues();
    sameColumnTwice();
    smallestPlace();
    T.end();
  }

  /** T0 has three columns, T1 two (the second refers to T0), T2 four, and T3 is not there. */
  private static Sessionstore three() {
    Sessionstore x = new Sessionstore();
    Tests.must(x, 0, "create T0 ( c0 , c1 , c2 )");
    Tests.must(x, 0, "create T1 ( c0 , c1 refs T0 )");
    Tests.must(x, 0, "create T2 ( c0 , c1 , c2 , c3 )");
    return x;
  }

  /** What the text has, by fault() and by run(). */
  private static void fault(String text, String want) {
    Sessionstore x = three();
    T.same(text, want, Tests.fault(x, 0, text));
    int got = x.run(0);
    boolean isStatic = x.result(0, 0) == 3 && x.result(0, 3) <= 3;
    T.same("run of " + text, want, isStatic ? x.result(0, 3) + "@" + x.result(0, 4) : "");
    T.same("answer of " + text, want.isEmpty(), got > -11 || got < -13);
  }

  private static void sources() {
    T.says("SOURCES of a query: its TABLES behind from, join, left: a, b, c in their sequence; of update and delete, and"
        + " of a check, the TABLE: a. A ref without a, b, c is of a;");
    fault("select a c2 , b c1 , c c3 from T0 join T1 on 1 = 1 left T2 on 1 = 1", "");
    fault("select a c3 , b c2 from T0 join T1 on 1 = 1", "2@1");
    fault("select a c1 , b c2 from T0 join T1 on 1 = 1", "2@4");
    fault("select a c1 , b c2 from T1 join T0 on 1 = 1", "");
    fault("select c2 from T1 join T0 on 1 = 1", "2@1");
    fault("select c1 from T1 join T0 on 1 = 1", "");
    fault("update T1 set c1 = a c1 where a c0 = 1", "");
    fault("update T1 set c1 = b c1", "2@5");
    fault("update T1 set c1 = c c1", "2@5");
    fault("delete T1 where a c1 = c0", "");
    fault("delete T1 where b c1 = 1", "2@3");
    fault("create T3 ( c0 , c1 ) check a c1 = c0", "");
    fault("create T3 ( c0 , c1 ) check b c1 = c0", "2@8");
  }

  private static void outerRefs() {
    T.says("with outer: of the SOURCES of the query (or update, or delete) directly around this query.");
    fault("select 1 from T1 where exists ( select 1 from T2 where outer c1 = 1 )", "");
    fault("select 1 from T1 where exists ( select 1 from T2 where outer c2 = 1 )", "2@12");
    fault("select 1 from T2 where exists ( select 1 from T1 where outer c2 = 1 )", "");
    fault("select 1 from T1 join T0 on 1 = 1 where exists ( select 1 from T1 where outer b c2 = 1 )", "");
    fault("select 1 from T1 join T0 on 1 = 1 where exists ( select 1 from T1 where outer a c2 = 1 )", "2@18");
    fault("update T1 set c1 = ( select max ( c0 ) from T2 where c0 = outer c1 )", "");
    fault("update T1 set c1 = ( select max ( c0 ) from T2 where c0 = outer c2 )", "2@16");
    fault("delete T1 where c0 in ( select outer a c1 from T2 )", "");
    fault("delete T1 where c0 in ( select outer b c1 from T2 )", "2@7");
    fault("insert T1 select c0 , ( select max ( outer c2 ) from T1 ) from T0", "");
    fault("insert T1 select c0 , ( select max ( outer c3 ) from T1 ) from T0", "2@9");
  }

  private static void tablesThatThereAreNot() {
    T.says("ERROR 2 NAME, PLACE the TOKEN: a T of no TABLE (of create only a T behind refs, which has to be another TABLE"
        + " that there is);");
    fault("select 1 from T3", "2@3");
    fault("select 1 from T0 join T3 on 1 = 1", "2@5");
    fault("select 1 from T0 left T1 on 1 = 1 left T3 on 1 = 1", "2@11");
    fault("select 1 from T0 where exists ( select 1 from T3 )", "2@10");
    fault("insert T3 values ( 1 )", "2@1");
    fault("insert T3 select c0 from T0", "2@1");
    fault("insert T0 select 1 , 2 , 3 from T3", "2@9");
    fault("update T3 set c0 = 1", "2@1");
    fault("delete T3", "2@1");
    fault("drop T3", "2@1");
    fault("index T3 c0", "2@1");
    fault("create T3 ( c0 )", "");
    Sessionstore x = three();
    x.begin(1, 0);
    T.same("of drop it is told ahead of NOT NOW", -12, Tests.run(x, 0, "drop T3"));
    T.same("of index as well", -12, Tests.run(x, 0, "index T3 c0"));
    T.same("of create NAME is told ahead of NOT NOW", -12, Tests.run(x, 0, "create T0 ( c1 )"));
    x.rollback(1);
    Tests.must(x, 0, "drop T1");
    T.same("a dropped one", "2@3", Tests.fault(x, 0, "select 1 from T1"));
  }

  private static void refsOfCreate() {
    T.says("(of create only a T behind refs, which has to be another TABLE that there is)");
    fault("create T3 ( c0 refs T0 , c1 refs T1 , c2 refs T0 )", "");
    fault("create T3 ( c0 refs T3 )", "2@5");
    fault("create T3 ( c0 notnull refs T3 )", "2@6");
    fault("create T3 ( c0 , c1 notnull refs T0 , c2 refs T3 )", "2@12");
    fault("create T0 ( c0 , c1 refs T0 )", "2@7");
    Sessionstore x = new Sessionstore();
    T.same("of one that there is not yet", "2@5", Tests.fault(x, 0, "create T0 ( c0 refs T1 )"));
    Tests.must(x, 0, "create T1 ( c0 )");
    T.same("and now", "", Tests.fault(x, 0, "create T0 ( c0 refs T1 )"));
  }

  private static void sourcesThatThereAreNot() {
    T.says("a ref (its first TOKEN) of a SOURCE that there is not (in values: none;");
    fault("select b c0 from T0", "2@1");
    fault("select 1 + c c0 from T0 join T0 on 1 = 1", "2@3");
    fault("select 1 from T0 group b c0", "2@5");
    fault("select 1 from T0 order 1 , b c0 desc", "2@7");
    fault("select 1 from T0 where exists ( select b c0 from T0 )", "2@8");
    fault("select 1 from T0 join T0 on 1 = 1 where exists ( select b c0 from T0 )", "2@14");
    fault("select 1 from T0 where exists ( select outer b c0 from T0 )", "2@8");
    fault("insert T1 values ( c0 , 1 )", "2@4");
    fault("insert T1 values ( 1 , a c0 )", "2@6");
    fault("insert T1 values ( 1 , outer c0 )", "2@6");
  }

  private static void sourcesInOn() {
    T.says("in on, and in a query that stands there with outer, only those up to the one ahead of that on)");
    fault("select 1 from T0 join T1 on b c0 = 1 left T2 on c c0 = b c0 + a c0", "");
    fault("select 1 from T0 join T1 on c c0 = 1 left T2 on 1 = 1", "2@7");
    fault("select 1 from T0 join T1 on 1 = c c0 left T2 on 1 = 1", "2@9");
    fault("select 1 from T0 join T1 on 1 in ( select c0 from T2 where c0 = outer b c1 ) left T2 on 1 = 1", "");
    fault("select 1 from T0 join T1 on 1 in ( select c0 from T2 where c0 = outer c c1 ) left T2 on 1 = 1", "2@17");
    fault("select 1 from T0 join T1 on 1 = 1 left T2 on 1 in ( select c0 from T2 where c0 = outer c c3 )", "");
    fault("select 1 from T0 join T1 on 1 = 1 left T2 on 1 in ( select c0 from T2 where c0 = outer b c2 )", "2@23");
    fault("select 1 from T0 join T1 on exists ( select c c0 from T0 join T0 on 1 = 1 join T0 on 1 = 1 )", "");
    fault("select c c0 from T0 join T1 on 1 = 1 left T2 on 1 = 1 where c c0 = 1 order c c1", "");
  }

  private static void columnsThatThereAreNot() {
    T.says("or of a COLUMN that it has not (a TABLE that there is not has none),");
    fault("select c2 , c3 from T0", "2@3");
    fault("select c3 from T2", "");
    fault("select c0 from T3", "2@1");
    fault("select 1 , c0 from T3 where c0 = 1", "2@3");
    fault("select 1 from T0 where b c0 = a c3", "2@5");
    fault("select 1 from T0 where c2 = a c3", "2@7");
    fault("select 1 from T3 where c0 = 1", "2@3");
    fault("create T3 ( c0 , c1 ) check c1 = 1", "");
    fault("create T3 ( c0 , c1 ) check c2 = 1", "2@8");
    fault("create T2 ( c0 , c1 ) check c2 = 1", "2@8");
    fault("delete T0 where c2 = 1 and c3 = 1", "2@7");
    fault("update T0 set c0 = c3", "2@5");
  }

  private static void nothingAround() {
    T.says("or with outer where nothing is around;");
    fault("select outer c0 from T0", "2@1");
    fault("select 1 from T0 where outer c0 = 1", "2@5");
    fault("select 1 from T0 group outer c0", "2@5");
    fault("insert T1 select 1 , outer c0 from T0", "2@5");
    fault("update T0 set c0 = outer c0", "2@5");
    fault("update T0 set c0 = 1 where outer c0 = 1", "2@7");
    fault("delete T0 where outer a c0 = 1", "2@3");
    fault("create T3 ( c0 ) check outer c0 = 1", "2@6");
  }

  private static void columnsOfSetAndIndex() {
    T.says("a C behind set or in index that the TABLE has not;");
    fault("update T1 set c1 = 1", "");
    fault("update T1 set c2 = 1", "2@3");
    fault("update T1 set c1 = 1 , c2 = 1", "2@7");
    fault("update T2 set c3 = 1", "");
    fault("index T1 c1", "");
    fault("index T1 c2", "2@2");
    fault("index T2 c3", "");
  }

  private static void columnsOfCreate() {
    T.says("in create a C that is not c0, c1, .. in sequence.");
    fault("create T3 ( c0 , c1 , c2 , c3 )", "");
    fault("create T3 ( c1 )", "2@3");
    fault("create T3 ( c0 , c0 )", "2@5");
    fault("create T3 ( c0 notnull , c2 )", "2@6");
    fault("create T3 ( c0 , c1 , c3 )", "2@7");
    fault("create T3 ( c0 , c1 , c2 , c3 , c0 )", "2@11");
    fault("create T3 ( c0 , c1 , c2 , c3 , c3 )", "2@11");
  }

  private static void aggregates() {
    T.says("ERROR 3 MISPLACED, PLACE the TOKEN: an aggregate (count, sum, min, max) but in what, having, order of its"
        + " query,");
    for (String one : new String[] {"count ( * )", "count ( 1 )", "sum ( 1 )", "min ( 1 )", "max ( 1 )"}) {
      fault("select " + one + " from T0 having " + one + " = 1 order " + one, "");
      fault("select 1 from T0 where " + one + " = 1", "3@5");
      fault("select 1 from T0 join T0 on " + one + " = 1", "3@7");
      fault("insert T0 values ( 1 , " + one + " , 3 )", "3@6");
      fault("update T0 set c0 = " + one, "3@5");
      fault("update T0 set c0 = 1 where " + one + " = 1", "3@7");
      fault("delete T0 where " + one + " = 1", "3@3");
      fault("create T3 ( c0 ) check " + one + " = 1", "3@6");
    }
    fault("select 1 from T0 where exists ( select max ( c0 ) from T0 )", "");
    fault("select 1 from T0 where exists ( select 1 from T0 where max ( c0 ) = 1 )", "3@12");
    fault("select max ( c0 ) from T0 where exists ( select 1 from T0 where max ( c0 ) = 1 )", "3@15");
    fault("select ( select 1 from T0 where max ( c0 ) = 1 ) from T0", "3@7");
    fault("update T0 set c0 = ( select max ( c0 ) from T0 )", "");
    behindAQuery();
  }

  /** What stands behind a query stands where it stood ahead of it. */
  private static void behindAQuery() {
    String[] tails = {"where 1 = 1", "group c0", "group c0 having 1 = 1", "order 1", ""};
    for (String tail : tails) {
      String query = ("( select 1 from T1 " + tail).trim() + " )";
      int many = query.split(" ").length;
      fault("select 1 from T0 where exists " + query + " and count ( * ) = 1", "3@" + (7 + many));
      fault("select 1 from T0 join T1 on 1 in " + query + " and count ( * ) = 1", "3@" + (10 + many));
      fault("select 1 from T0 join T1 on 1 = " + query + " and c c0 = 1", "2@" + (10 + many));
      fault("select " + query + " + count ( * ) from T0", "");
      fault("select 1 from T0 having 1 = " + query + " and count ( * ) = 1 order " + query + " , count ( * )", "");
      fault("select sum ( " + query + " + max ( c0 ) ) from T0", "3@" + (4 + many));
      fault("select 1 , " + query + " + c0 , count ( * ) from T0", "3@" + (4 + many));
      fault("select 1 from T0 where 1 = " + query + " and c0 = 1 group c1", "");
      fault("update T0 set c0 = " + query + " + count ( * )", "3@" + (6 + many));
      fault("update T0 set c0 = " + query + " + outer c0", "2@" + (6 + many));
      fault("delete T0 where 1 = " + query + " and min ( c0 ) = 1", "3@" + (6 + many));
    }
  }

  private static void aggregatesWithinOneAnother() {
    T.says("or within another one's expr (but in a query that stands there);");
    fault("select sum ( max ( c0 ) ) from T0", "3@3");
    fault("select sum ( 1 + count ( * ) ) from T0", "3@5");
    fault("select 1 from T0 having sum ( - max ( c0 ) ) = 1", "3@8");
    fault("select 1 from T0 order sum ( 1 ) , sum ( max ( c0 ) )", "3@12");
    fault("select sum ( c0 ) + max ( c0 ) from T0", "");
    fault("select sum ( ( select max ( c0 ) from T1 ) ) from T0", "");
    fault("select sum ( ( select sum ( max ( c0 ) ) from T1 ) ) from T0", "3@7");
    fault("select sum ( ( select max ( c0 ) from T1 ) + max ( c0 ) ) from T0", "3@13");
  }

  private static void grouped() {
    T.says("in a query with group, with having, or with an aggregate in its what or order (not in a query that stands"
        + " there) (GROUPED): * as what,");
    fault("select * from T0 group c0 , c1 , c2", "3@1");
    fault("select * from T0 having 1 = 1", "3@1");
    fault("select * from T0 order 1 , count ( * )", "3@1");
    fault("select * from T0 order ( select count ( * ) from T0 )", "");
    fault("select * from T0 where exists ( select * from T0 group c0 )", "3@8");
    fault("select * from T0 where exists ( select c0 from T0 group c0 )", "");
    fault("select c0 from T0 group c0 having exists ( select * from T1 )", "");
    fault("select c0 , ( select count ( * ) from T0 ) from T0", "");
    fault("select c0 , count ( * ) from T0", "3@1");
    fault("select c0 from T0 order count ( * )", "3@1");
    fault("select c0 from T0 having 1 = 1", "3@1");
    fault("select c0 from T0 where 1 = 1", "");
    fault("insert T0 select * from T0 group c0", "3@3");
  }

  private static void refsInGrouped() {
    T.says("and a ref (not an outer one) in what, having, order that is not in an aggregate, unless the same COLUMN of the"
        + " same SOURCE is in group");
    fault("select c0 from T0 group c0", "");
    fault("select a c0 from T0 group c0", "");
    fault("select c0 from T0 group a c0", "");
    fault("select c1 from T0 group c0 , c1", "");
    fault("select c1 from T0 group c0", "3@1");
    fault("select 1 + - ( c1 ) from T0 group c0", "3@5");
    fault("select b c0 from T0 join T1 on 1 = 1 group c0", "3@1");
    fault("select c0 from T0 join T1 on 1 = 1 group b c0", "3@1");
    fault("select b c0 , a c0 from T0 join T1 on 1 = 1 group c0 , b c0", "");
    fault("select 1 from T0 group c0 having c0 = 1 and c1 = 1", "3@11");
    fault("select 1 from T0 group c0 order c0 , c1 desc", "3@9");
    fault("select sum ( c1 ) , count ( c2 ) from T0 group c0 having max ( c1 ) > min ( c2 ) order sum ( c2 )", "");
    fault("select sum ( c1 ) + c1 from T0 group c0", "3@6");
    fault("select sum ( c1 ) + c0 from T0 group c0", "");
    fault("select c0 from T0 where c1 = 1 group c0", "");
    fault("select c0 from T0 join T1 on a c1 = b c1 group c0", "");
    fault("select c0 , c1 , c2 from T0 group c0 , c1", "3@5");
    fault("select 1 from T0 where c0 in ( select outer c0 from T1 group c0 )", "");
  }

  private static void outerRefsInGrouped() {
    T.says("(an outer ref of a query that stands there counts as such a ref as well, at its own PLACE);");
    fault("select ( select max ( c0 ) from T1 where c0 = outer c0 ) from T0 group c0", "");
    fault("select ( select max ( c0 ) from T1 where c0 = outer c1 ) from T0 group c0", "3@12");
    fault("select ( select max ( c0 ) from T1 where c0 = outer b c0 ) from T0 join T0 on 1 = 1 group c0", "3@12");
    fault("select 1 from T0 group c0 having exists ( select 1 from T1 where 1 = outer c1 )", "3@16");
    fault("select 1 from T0 group c0 order ( select outer c1 from T1 )", "3@9");
    fault("select 1 from T0 where exists ( select 1 from T1 where 1 = outer c1 ) group c0", "");
    fault("select 1 from T0 join T1 on exists ( select outer c1 from T1 ) group c0", "");
    fault("select sum ( ( select outer c1 from T1 ) ) from T0 group c0", "");
    fault("select c1 , ( select outer c2 from T1 ) from T0 group c0", "3@1");
    fault("select c0 , ( select outer c2 from T1 ) , c1 from T0 group c0", "3@5");
    fault("select ( select c1 from T1 ) from T0 group c0", "");
  }

  private static void outerInGroup() {
    T.says("outer in group;");
    fault("select 1 from T0 where exists ( select 1 from T1 group outer c0 )", "3@12");
    fault("select 1 from T0 where exists ( select 1 from T1 group c0 , outer c0 )", "3@14");
    fault("select 1 from T0 where exists ( select c0 from T1 group outer c0 )", "3@8");
    fault("select 1 from T0 where exists ( select 1 from T1 group outer c3 )", "2@12");
    fault("select 1 from T0 where exists ( select 1 from T1 group outer b c0 )", "2@12");
    fault("delete T0 where exists ( select 1 from T1 group outer c0 )", "3@10");
  }

  private static void queriesInQueries() {
    T.says("a query in a query that has itself something around it (select; an insert, whose query it is, is not around it;"
        + " so queries stand at most one in the other);");
    fault("select ( select 1 from T1 ) from T0", "");
    fault("select ( select ( select 1 from T2 ) from T1 ) from T0", "3@4");
    fault("select 1 from T0 where exists ( select 1 from T1 where exists ( select 1 from T2 ) )", "3@14");
    fault("select 1 from T0 where 1 in ( select 1 from T1 where 1 in ( select 1 from T2 ) )", "3@16");
    fault("insert T1 select 1 , ( select 1 from T0 ) from T0", "");
    fault("insert T1 select 1 , ( select ( select 1 from T0 ) from T0 ) from T0", "3@8");
    fault("update T0 set c0 = ( select 1 from T1 )", "");
    fault("update T0 set c0 = ( select ( select 1 from T1 ) from T1 )", "3@8");
    fault("delete T0 where exists ( select 1 from T1 )", "");
    fault("delete T0 where exists ( select 1 from T1 where 1 in ( select 1 from T1 ) )", "3@13");
    fault("select ( select 1 from T1 ) , ( select 2 from T1 ) from T0 where exists ( select 1 from T2 )", "");
  }

  private static void queriesInCheckAndValues() {
    T.says("a query in check or values (select);");
    fault("create T3 ( c0 ) check exists ( select 1 from T0 )", "3@8");
    fault("create T3 ( c0 ) check c0 in ( select c0 from T0 )", "3@9");
    fault("create T3 ( c0 ) check c0 = ( select c0 from T0 )", "3@9");
    fault("insert T1 values ( 1 , ( select 1 from T0 ) )", "3@7");
    fault("insert T1 values ( 1 , - ( ( select 1 from T3 ) ) )", "3@9");
    fault("insert T1 values ( 1 , ( select outer c0 from T0 ) )", "3@7");
  }

  private static void queriesWithMoreThanOne() {
    T.says("a query that is a factor or behind in, with * or more than one expr (select);");
    fault("select ( select * from T1 ) from T0", "3@2");
    fault("select ( select 1 , 2 from T1 ) from T0", "3@2");
    fault("select 1 from T0 where 1 in ( select * from T1 )", "3@8");
    fault("select 1 from T0 where 1 not in ( select 1 , 2 from T1 )", "3@9");
    fault("select 1 from T0 where exists ( select 1 , 2 from T1 )", "");
    fault("select 1 from T0 where exists ( select * from T1 )", "");
    Sessionstore x = new Sessionstore();
    Tests.must(x, 0, "create T0 ( c0 )");
    T.same("also of one column", "3@2", Tests.fault(x, 0, "select ( select * from T0 ) from T0"));
  }

  private static void numberOfValues() {
    T.says("values, or insert's query (select), with another number of VALUES than the TABLE has COLUMNS;");
    fault("insert T1 values ( 1 )", "3@2");
    fault("insert T1 values ( 1 , 2 )", "");
    fault("insert T1 values ( 1 , 2 , 3 )", "3@2");
    fault("insert T1 select 1 from T0", "3@2");
    fault("insert T1 select 1 , 2 from T0", "");
    fault("insert T1 select 1 , 2 , 3 from T0", "3@2");
    fault("insert T1 select * from T0", "3@2");
    fault("insert T0 select * from T0", "");
    fault("insert T2 select * from T1 join T1 on 1 = 1", "");
    fault("insert T2 select * from T0 left T1 on 1 = 1", "3@2");
  }

  private static void sameColumnTwice() {
    T.says("the second one of the same C behind set.");
    fault("update T2 set c0 = 1 , c1 = 1 , c2 = 1 , c3 = 1", "");
    fault("update T2 set c0 = 1 , c0 = 1", "3@7");
    fault("update T2 set c3 = 1 , c1 = 1 , c3 = 1 , c1 = 1", "3@11");
    fault("update T2 set c1 = 1 , c2 = c1 , c1 = 1", "3@11");
  }

  private static void smallestPlace() {
    T.says("If there is no SYNTAX, the ERROR of NAME or MISPLACED with the smallest PLACE counts (of both NAME).");
    fault("select c3 , c3 from T3", "2@1");
    fault("select c3 from T0 where count ( * ) = 1", "2@1");
    fault("select c1 from T0 group c3", "3@1");
    fault("select c3 from T0 group c0", "2@1");
    fault("select 1 from T0 where count ( * ) = c3", "3@5");
    fault("insert T1 values ( c0 )", "3@2");
    fault("insert T3 values ( 1 )", "2@1");
    fault("update T1 set c2 = 1 , c2 = 2", "2@3");
    fault("update T1 set c1 = 1 , c2 = 2 , c2 = 3", "2@7");
    fault("select c3 from T0 where", "1@5");
    fault("select * from T3 group c0 ,", "1@7");
    fault("select ( select * from T3 ) from T0", "3@2");
    fault("select 1 from T0 where exists ( select b c0 from T1 group outer b c0 )", "2@8");
  }
}
