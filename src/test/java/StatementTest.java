/** Promises 5, 23 to 25 and 33: what statements mean, and what is told of them. */
public final class StatementTest {
  private static final Tests T = new Tests("StatementTest");

  public static void main(String[] args) {
    reckoning();
    conditions();
    joins();
    grouping();
    ordering();
    queriesWithin();
    promise5Insert();
    promise5Update();
    promise5Delete();
    promise5References();
    promise5Definitions();
    promise5Refused();
    promise23Result();
    promise24Answer();
    promise25Value();
    promise33WouldFind();
    T.end();
  }

  /** T0 with the rows 1,10 2,20 3,null 4,20. */
  private static Sessionstore plain() {
    Sessionstore x = new Sessionstore();
    Tests.must(x, 0, "create T0 ( c0 , c1 )");
    Tests.must(x, 0, "insert T0 values ( 4 , 20 )");
    Tests.must(x, 0, "insert T0 values ( 1 , 10 )");
    Tests.must(x, 0, "insert T0 values ( 3 , null )");
    Tests.must(x, 0, "insert T0 values ( 2 , 20 )");
    return x;
  }

  private static void ask(Sessionstore x, String text, String want) {
    T.same(text, want, Tests.ask(x, 0, text));
  }

  private static void expr(Sessionstore x, String expr, String want) {
    ask(x, "select " + expr + " from T0 where c0 = 1", want);
  }

  private static void reckoning() {
    Sessionstore x = plain();
    expr(x, "1 + 2 * 3 - 4 / 2", "5");
    expr(x, "9 - 5 - 3", "1");
    expr(x, "20 / 3 / 2 , - 7 / 2 , 7 / - 2", "3,-3,-3");
    expr(x, "( 1 + 2 ) * 3 , - - 5 , - ( 2 - 9 )", "9,5,7");
    expr(x, "1 / 0 , null + 1 , 2 * null , - null", "-,-,-,-");
    expr(x, "99 * 99 + 99 + 99", "9999");
    expr(x, "99 * 99 + 99 + 99 + 1", "-");
    expr(x, "- 99 * 99 - 99 - 99 , - 99 * 99 - 99 - 99 - 1", "-9999,-");
    expr(x, "99 * 99 * 2 - 99 * 99", "-");
    expr(x, "c1 * c0 - a c1", "0");
  }

  private static void where(Sessionstore x, String cond, String want) {
    ask(x, "select c0 from T0 where " + cond, want);
  }

  private static void conditions() {
    Sessionstore x = plain();
    where(x, "c1 = 20", "2;4");
    where(x, "c1 <> 20", "1");
    where(x, "c1 < 20", "1");
    where(x, "c1 <= 20", "1;2;4");
    where(x, "c1 > 10", "2;4");
    where(x, "c1 >= 10", "1;2;4");
    where(x, "not c1 = 20", "1");
    where(x, "c1 is null", "3");
    where(x, "c1 is not null", "1;2;4");
    where(x, "c1 = 10 or c0 = 3", "1;3");
    where(x, "c1 = null or c0 = 3", "3");
    where(x, "not [ c1 = 20 and c0 > 2 ]", "1;2");
    where(x, "c0 = 1 or c0 = 2 and c0 = 3", "1");
    where(x, "[ c0 = 1 or c0 = 2 ] and c0 = 2", "2");
    where(x, "c1 in ( 10 , null )", "1");
    where(x, "c1 not in ( 10 , null )", "");
    where(x, "c1 not in ( 10 , 11 )", "2;4");
    where(x, "null not in ( select c0 from T0 where c0 > 9 )", "1;2;3;4");
    where(x, "not c1 in ( 20 )", "1");
    where(x, "exists ( select c0 from T0 where c0 > 3 )", "1;2;3;4");
    where(x, "exists ( select c0 from T0 limit 0 )", "");
    where(x, "not not c1 = 10", "1");
  }

  private static void joins() {
    Sessionstore x = plain();
    Tests.must(x, 0, "create T1 ( c0 , c1 )");
    Tests.must(x, 0, "insert T1 values ( 7 , 1 )");
    Tests.must(x, 0, "insert T1 values ( 8 , 1 )");
    Tests.must(x, 0, "insert T1 values ( 9 , 4 )");
    ask(x, "select c0 , b c0 from T0 join T1 on b c1 = a c0", "1,7;1,8;4,9");
    ask(x, "select c0 , b c0 from T0 left T1 on b c1 = a c0", "1,7;1,8;2,-;3,-;4,9");
    ask(x, "select * from T0 left T1 on b c1 = a c0 where b c0 is null", "2,20,-,-;3,-,-,-");
    ask(x, "select c0 , c c0 from T0 left T1 on b c1 = 5 left T1 on c c1 = a c0", "1,7;1,8;2,-;3,-;4,9");
    ask(x, "select c0 , c c0 from T0 left T1 on b c1 = c0 join T0 on c c0 = b c1", "1,1;1,1;4,4");
    ask(x, "select count ( * ) from T0 join T0 on 1 = 1 join T0 on 1 = 1", "64");
    ask(x, "select c0 , b c0 from T1 join T0 on b c0 < 2", "7,1;8,1;9,1");
  }

  private static void grouping() {
    Sessionstore x = plain();
    ask(x, "select c1 , count ( * ) , sum ( c0 ) from T0 group c1", "10,1,1;20,2,6;-,1,3");
    Tests.must(x, 0, "insert T0 values ( 5 , null )");
    ask(x, "select c1 , min ( c0 ) , max ( c0 ) from T0 group c1", "10,1,1;20,2,4;-,3,5");
    ask(x, "select count ( c1 ) , count ( * ) , sum ( c1 ) , min ( c1 ) , max ( c1 ) from T0", "3,5,50,10,20");
    ask(x, "select count ( c1 ) , count ( * ) , sum ( c1 ) , min ( c1 ) , max ( c1 ) from T0 where c0 > 9", "0,0,-,-,-");
    ask(x, "select 1 from T0 where c0 > 9 having 1 = 1", "1");
    ask(x, "select 1 from T0 where c0 > 9 having count ( * ) > 0", "");
    ask(x, "select c1 from T0 where c0 > 9 group c1", "");
    ask(x, "select c1 from T0 group c1 having count ( * ) = 2", "20;-");
    ask(x, "select c1 from T0 group c1 having null = 1", "");
    ask(x, "select sum ( 99 * 99 ) from T0 where c0 = 1", "9801");
    ask(x, "select sum ( 99 * 99 ) from T0", "-");
    ask(x, "select sum ( c0 * ( 99 * 33 ) - 99 * 66 ) from T0 where c0 < 4", "0");
    ask(x, "select c1 , c1 + max ( c0 ) * 2 from T0 group c1 order count ( * ) desc , c1", "-,-;20,28;10,12");
    ask(x, "select a c1 , b c0 from T0 join T0 on b c0 = 1 group b c0 , c1", "10,1;20,1;-,1");
  }

  private static void ordering() {
    Sessionstore x = plain();
    ask(x, "select c0 from T0 order c1", "3;1;2;4");
    ask(x, "select c0 from T0 order c1 desc", "2;4;1;3");
    ask(x, "select c0 from T0 order c1 desc , c0 desc", "4;2;1;3");
    ask(x, "select c0 from T0 order c1 limit 2", "3;1");
    ask(x, "select c0 from T0 limit 0", "");
    ask(x, "select c0 from T0 limit 99", "1;2;3;4");
    ask(x, "select c0 from T0 order 1", "1;2;3;4");
    ask(x, "select c0 from T0 order - c0", "4;3;2;1");
    ask(x, "select c0 from T0 order ( select max ( b c0 ) from T0 join T0 on b c0 <= a c0 where a c0 = outer c0 ) desc",
        "4;3;2;1");
  }

  private static void queriesWithin() {
    Sessionstore x = plain();
    ask(x, "select c0 , ( select c0 from T0 where c1 = outer c1 order c0 desc ) from T0", "1,1;2,4;3,-;4,4");
    ask(x, "select ( select c0 from T0 where c0 > 9 ) from T0 limit 1", "-");
    where(x, "c0 in ( select c1 / 10 from T0 )", "1;2");
    where(x, "c0 not in ( select c1 / 10 from T0 )", "");
    where(x, "c0 not in ( select c1 / 10 from T0 where c1 is not null )", "3;4");
    where(x, "exists ( select 1 from T0 where c1 = outer c1 and c0 <> outer c0 )", "2;4");
    where(x, "c0 = ( select count ( * ) from T0 where c1 < outer c1 ) + 1", "1;2");
    ask(x, "select sum ( ( select max ( c0 ) from T0 where c1 = outer c1 ) ) from T0", "9");
    ask(x, "select c1 , ( select count ( * ) from T0 where c1 >= outer c1 ) from T0 group c1", "10,3;20,2;-,0");
    ask(x, "select ( select sum ( outer c0 ) from T0 ) from T0", "4;8;12;16");
    ask(x, "select a c0 , b c0 from T0 join T0 on b c0 = ( select min ( c0 ) from T0 where c0 > outer a c0 )",
        "1,2;2,3;3,4");
  }

  private static void run(Sessionstore x, String text, int want) {
    T.same(text, want, Tests.run(x, 0, text));
  }

  private static void promise5Insert() {
    Sessionstore x = Tests.samples(0, 1);
    run(x, "insert T0 values ( 0 , 50 , 1 )", 1);
    run(x, "insert T0 values ( 19 , null , 1 )", 1);
    run(x, "insert T0 values ( 20 , 1 , 1 )", -15);
    run(x, "insert T0 values ( - 1 , 1 , 1 )", -15);
    run(x, "insert T0 values ( null , 1 , 1 )", -15);
    run(x, "insert T0 values ( 20 , 51 , null )", -15);
    run(x, "insert T0 values ( 1 , 51 , null )", -16);
    run(x, "insert T0 values ( 0 , 51 , 1 )", -17);
    run(x, "insert T0 values ( 0 , 1 , 1 )", -18);
    run(x, "insert T0 select c0 + 1 , c1 , c2 from T0 where c0 = 0", 1);
    T.same("rows", "0,50,1;1,50,1;19,-,1", x.table(0));
    run(x, "insert T0 select c0 + 1 , c1 , c2 from T0", -15);
    run(x, "insert T0 select 5 , c1 , c2 from T0", -18);
    run(x, "insert T0 select c0 + 5 , c1 , null from T0 order c0 desc", -15);
    run(x, "insert T0 select c0 + 5 , c1 , null from T0 order c0", -16);
    run(x, "insert T0 select c0 + 5 , c1 , c2 from T0 where c0 > 19", 0);
    run(x, "insert T0 select c0 + 1 , c1 , c2 from T0 where c0 < 19 order c0", -18);
    run(x, "insert T0 select c0 + 2 , c1 , c2 from T0 where c0 < 19", 2);
    T.same("rows", "0,50,1;1,50,1;2,50,1;3,50,1;19,-,1", x.table(0));
  }

  private static void promise5Update() {
    Sessionstore x = plain();
    run(x, "update T0 set c0 = c0 + 1", 4);
    T.same("moved", "2,10;3,20;4,-;5,20", x.table(0));
    run(x, "update T0 set c0 = c1 , c1 = c0 where c0 = 2", 1);
    T.same("exchanged", "3,20;4,-;5,20;10,2", x.table(0));
    run(x, "update T0 set c0 = 3 where c0 = 4", -18);
    run(x, "update T0 set c0 = 7", -18);
    run(x, "update T0 set c0 = c1 where c0 > 3", -15);
    run(x, "update T0 set c1 = 1 where c1 > 99", 0);
    run(x, "update T0 set c1 = ( select sum ( c1 ) from T0 ) + outer c0", -12);
    run(x, "update T0 set c1 = ( select sum ( c1 ) from T0 )", 4);
    T.same("all at once", "3,42;4,42;5,42;10,42", x.table(0));
    run(x, "update T0 set c1 = ( select count ( * ) from T0 where c0 < outer c0 ) where c0 <> 5", 3);
    T.same("of each", "3,0;4,1;5,42;10,3", x.table(0));
    Tests.must(x, 0, "create T1 ( c0 , c1 notnull ) check c0 + c1 <> 9");
    Tests.must(x, 0, "insert T1 values ( 1 , 2 )");
    Tests.must(x, 0, "insert T1 values ( 2 , 2 )");
    run(x, "update T1 set c1 = null", -16);
    run(x, "update T1 set c1 = 7", -17);
    run(x, "update T1 set c1 = 8 , c0 = 2", -18);
    run(x, "update T1 set c1 = 8 where c0 = 1", -17);
  }

  private static void promise5Delete() {
    Sessionstore x = plain();
    run(x, "delete T0 where c1 = 20", 2);
    T.same("left", "1,10;3,-", x.table(0));
    run(x, "delete T0 where c1 <> 20", 1);
    run(x, "delete T0 where c0 in ( select c0 + 1 from T0 )", 0);
    run(x, "delete T0", 1);
    run(x, "delete T0", 0);
    T.same("nothing", "", x.table(0));
  }

  private static void promise5References() {
    Sessionstore x = Tests.samples(0, 1);
    Tests.must(x, 0, "insert T0 values ( 3 , 0 , 1 )");
    Tests.must(x, 0, "insert T0 values ( 4 , 0 , 1 )");
    run(x, "insert T1 values ( 1 , 5 , 0 )", -20);
    run(x, "insert T1 values ( 1 , 55 , 0 )", -20);
    run(x, "insert T1 values ( 1 , 3 , 0 )", 1);
    run(x, "insert T1 values ( 2 , null , 0 )", 1);
    run(x, "insert T1 values ( 1 , 5 , 0 )", -18);
    run(x, "delete T0 where c0 = 3", -20);
    run(x, "delete T0", -20);
    run(x, "update T0 set c0 = 5 where c0 = 3", -20);
    run(x, "update T0 set c0 = 7 - c0", 2);
    run(x, "update T1 set c1 = 4", 2);
    run(x, "delete T0 where c0 = 3", 1);
    run(x, "update T1 set c1 = 3", -20);
    run(x, "update T0 set c0 = c0 , c1 = 9", 1);
    T.same("rows", "4,9,1", x.table(0));
    T.same("referring", "1,4,0;2,4,0", x.table(1));
  }

  private static void promise5Definitions() {
    Sessionstore x = new Sessionstore();
    run(x, "create T0 ( c0 )", 0);
    run(x, "create T0 ( c0 )", -14);
    run(x, "create T1 ( c0 refs T0 )", 0);
    run(x, "drop T0", -14);
    run(x, "index T0 c0", 0);
    run(x, "index T0 c0", -14);
    x.begin(1, 0);
    run(x, "create T2 ( c0 )", -14);
    run(x, "drop T1", -14);
    run(x, "index T1 c0", -14);
    run(x, "drop T3", -12);
    x.commit(1);
    run(x, "drop T1", 0);
    run(x, "drop T0", 0);
    T.same("tables", 0, x.house(0));
    T.same("indexes", 0, x.house(7));
    run(x, "create T0 ( c0 )", 0);
    T.same("no index", 0, x.ofTable(0, 3));
    T.same("numbers", 1, x.house(6));
  }

  private static void promise5Refused() {
    Sessionstore x = Tests.samples(0);
    run(x, "select", -11);
    T.same("typed is empty", "", x.typed(0));
    T.same("empty", -11, x.run(0));
    run(x, "select c0 from T3", -12);
    run(x, "select * from T0 group c0", -13);
    T.same("no number", 0, x.house(6));
    run(x, "insert T0 values ( 99 , 0 , 0 )", -15);
    T.same("a number with an error", 1, x.house(6));
    T.fails("session 4", Tests.OUT, x, () -> x.run(4));
    Tests.must(x, 0, "insert T0 values ( 1 , 0 , 0 )");
    x.begin(1, 0);
    Tests.must(x, 1, "update T0 set c1 = 1");
    T.same("waits", -2, Tests.run(x, 0, "delete T0"));
    T.fails("waiting", Tests.STATE, x, () -> x.run(0));
    x.crash(false);
    T.fails("off", Tests.STATE, x, () -> x.run(0));
  }

  private static void result(Sessionstore x, String text, String want) {
    Tests.run(x, 0, text);
    T.same("result of " + text, want, x.result(0, 0) + " " + x.result(0, 1) + " " + x.result(0, 2) + " "
        + x.result(0, 3) + " " + x.result(0, 4));
  }

  private static void promise23Result() {
    Sessionstore x = plain();
    result(x, "select * from T0", "2 4 2 0 -1");
    result(x, "select c0 , 1 , 2 from T0 where c0 > 9", "2 0 3 0 -1");
    result(x, "update T0 set c1 = c1", "1 4 0 0 -1");
    result(x, "update T0 set c1 = c1 where c0 > 9", "1 0 0 0 -1");
    result(x, "index T0 c0", "5 0 0 0 -1");
    result(x, "index T0 c0", "3 0 0 4 -1");
    result(x, "select c0 from", "3 0 0 1 3");
    result(x, "select c3 from T0", "3 0 0 2 1");
    result(x, "insert T0 values ( 1 , 1 )", "3 0 0 8 -1");
    x.begin(1, 0);
    Tests.must(x, 1, "delete T0");
    result(x, "delete T0", "4 0 0 0 -1");
    x.rollback(1);
    T.same("done behind the wait", 1, x.result(0, 0));
    T.same("its rows", 4, x.result(0, 1));
    T.fails("session -1", Tests.OUT, x, () -> x.result(-1, 0));
    T.fails("what 5", Tests.ARGUMENT, x, () -> x.result(0, 5));
    T.fails("what -1", Tests.ARGUMENT, x, () -> x.result(0, -1));
    x.crash(false);
    T.fails("off", Tests.STATE, x, () -> x.result(0, 0));
    x.recover(-1);
    T.same("gone", 0, x.result(0, 0));
  }

  private static void promise24Answer() {
    Sessionstore x = plain();
    T.same("none yet", "", x.answer(0));
    ask(x, "select c1 , c0 from T0 order c0 desc", "20,4;-,3;20,2;10,1");
    Tests.must(x, 0, "update T0 set c1 = 1");
    T.same("changed", "", x.answer(0));
    ask(x, "select - 5 from T0 where c0 = 1", "-5");
    Tests.run(x, 0, "select");
    T.same("error", "", x.answer(0));
    T.fails("session 4", Tests.OUT, x, () -> x.answer(4));
    x.crash(false);
    T.fails("off", Tests.STATE, x, () -> x.answer(0));
  }

  private static void promise25Value() {
    Sessionstore x = plain();
    Tests.must(x, 0, "select c0 , c1 from T0");
    T.same("first", 1, x.value(0, 0, 0));
    T.same("null", -99999, x.value(0, 2, 1));
    T.same("last", 20, x.value(0, 3, 1));
    T.fails("row 4", Tests.OUT, x, () -> x.value(0, 4, 0));
    T.fails("row -1", Tests.OUT, x, () -> x.value(0, -1, 0));
    T.fails("column 2", Tests.OUT, x, () -> x.value(0, 0, 2));
    T.fails("column -1", Tests.OUT, x, () -> x.value(0, 0, -1));
    T.fails("session 4", Tests.OUT, x, () -> x.value(4, 0, 0));
    T.fails("no result", Tests.OUT, x, () -> x.value(1, 0, 0));
    Tests.must(x, 0, "delete T0 where c0 = 9");
    T.fails("no rows", Tests.OUT, x, () -> x.value(0, 0, 0));
    Tests.must(x, 0, "select c0 , c1 from T0");
    x.crash(false);
    T.fails("off, where no result is", Tests.OUT, x, () -> x.value(0, 0, 0));
  }

  private static void promise33WouldFind() {
    Sessionstore x = plain();
    Tests.type(x, 0, "select c0 from T0 where c1 = 20");
    T.same("rows", "2;4", x.wouldFind(0));
    T.same("still typed", 8, x.wipe(0, 1) + 1);
    T.same("an error", "", x.wouldFind(0));
    x.wipe(0, 60);
    T.same("nothing typed", "", x.wouldFind(0));
    Tests.type(x, 0, "delete T0");
    T.same("no query", "", x.wouldFind(0));
    T.same("no result", 1, x.result(0, 0));
    x.begin(1, 0);
    Tests.must(x, 1, "update T0 set c1 = 5 where c0 = 1");
    Tests.type(x, 1, "select c1 from T0");
    T.same("own changes", "5;20;-;20", x.wouldFind(1));
    x.begin(2, 2);
    Tests.type(x, 2, "select c1 from T0");
    T.same("would wait", -2, x.tried(2));
    T.same("whatever locks", "10;20;-;20", x.wouldFind(2));
    x.run(2);
    T.fails("waiting", Tests.STATE, x, () -> x.wouldFind(2));
    T.fails("session 4", Tests.OUT, x, () -> x.wouldFind(4));
    x.crash(false);
    T.fails("off", Tests.STATE, x, () -> x.wouldFind(0));
  }
}
