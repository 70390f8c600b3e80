/** The sentences of section 3: what queries tell, what statements change, and the first ERROR that holds. */
public final class MeaningTest {
  private static final Tests T = new Tests("MeaningTest");

  public static void main(String[] args) {
    allOrNothing();
    rowsByKeys();
    joins();
    lefts();
    where();
    groups();
    groupOfNone();
    having();
    order();
    limits();
    whatIsTold();
    counts();
    sums();
    leastAndMost();
    queryAsFactor();
    inserts();
    updates();
    deletes();
    withoutRows();
    keyed();
    nulled();
    checked();
    rowByRow();
    doubled();
    errorsInSequence();
    lostReference();
    lostReferred();
    lostAtTheEdges();
    lostIsOfWhatIsCommitted();
    definitionsNotNow();
    definitionsMakeSafe();
    dropTakesAll();
    T.end();
  }

  /** T0 ( c0 , c1 ) with 0,5 3,- 4,5 19,7; put in another sequence. */
  private static Sessionstore four() {
    Sessionstore x = new Sessionstore();
    Tests.must(x, 0, "create T0 ( c0 , c1 )");
    Tests.must(x, 0, "insert T0 values ( 4 , 5 )");
    Tests.must(x, 0, "insert T0 values ( 19 , 7 )");
    Tests.must(x, 0, "insert T0 values ( 0 , 5 )");
    Tests.must(x, 0, "insert T0 values ( 3 , null )");
    return x;
  }

  /** T1 ( c0 , c1 ) besides with 6,4 7,4 8,19 and 9,-. */
  private static Sessionstore eight() {
    Sessionstore x = four();
    Tests.must(x, 0, "create T1 ( c0 , c1 )");
    Tests.must(x, 0, "insert T1 values ( 7 , 4 )");
    Tests.must(x, 0, "insert T1 values ( 6 , 4 )");
    Tests.must(x, 0, "insert T1 values ( 8 , 19 )");
    Tests.must(x, 0, "insert T1 values ( 9 , null )");
    Tests.must(x, 0, "create T2 ( c0 )");
    return x;
  }

  private static void ask(Sessionstore x, String text, String want) {
    T.same(text, want, Tests.ask(x, 0, text));
  }

  private static void run(Sessionstore x, String text, int want) {
    T.same(text, want, Tests.run(x, 0, text));
    T.same("the kind of " + text, want < 0 ? 3 : 1, x.result(0, 0));
    T.same("the error of " + text, want < 0 ? -10 - want : 0, x.result(0, 3));
  }

  private static void allOrNothing() {
    T.says("A statement sees ROWS (section 4), and does all or nothing.");
    Sessionstore x = four();
    run(x, "update T0 set c0 = c0 + 1 , c1 = 0", -15);
    T.same("nothing of the update", "0,5;3,-;4,5;19,7", x.table(0));
    run(x, "insert T0 select c0 + 1 , c1 from T0 where c0 < 4", -18);
    T.same("nothing of the insert", "0,5;3,-;4,5;19,7", x.table(0));
    x.begin(0, 0);
    run(x, "update T0 set c0 = c0 + 1 , c1 = 0", -15);
    T.same("nothing in a transaction", 0, x.changed(0, 0));
    T.same("it goes on", 7, x.ofSession(0, 2));
  }

  private static void rowsByKeys() {
    T.says("query: the ROWS of the first SOURCE by KEYS;");
    Sessionstore x = four();
    ask(x, "select c0 from T0", "0;3;4;19");
    Tests.must(x, 0, "update T0 set c0 = 18 where c0 = 0");
    ask(x, "select * from T0", "3,-;4,5;18,5;19,7");
    ask(x, "select c0 from T0 where c0 < 0", "");
  }

  private static void joins() {
    T.says("with join each of them with each ROW of the next SOURCE, by KEYS, for which on is TRUE;");
    Sessionstore x = eight();
    ask(x, "select c0 , b c0 from T0 join T1 on 1 = 1 where c0 > 3", "4,6;4,7;4,8;4,9;19,6;19,7;19,8;19,9");
    ask(x, "select c0 , b c0 from T0 join T1 on b c1 = c0", "4,6;4,7;19,8");
    ask(x, "select c0 , b c0 from T0 join T1 on b c1 <> 99 where c0 = 0", "0,6;0,7;0,8");
    ask(x, "select c0 , b c0 from T0 join T1 on null = 1", "");
    ask(x, "select c0 , b c0 from T0 join T2 on 1 = 1", "");
    ask(x, "select c0 , b c0 from T2 join T0 on 1 = 1", "");
    ask(x, "select c0 , b c0 , c c0 from T0 join T1 on b c1 = c0 join T0 on c c0 < b c0 - 5", "4,6,0;4,7,0;19,8,0");
    ask(x, "select count ( * ) from T0 join T1 on 1 = 1 join T0 on 1 = 1", "64");
  }

  private static void lefts() {
    T.says("left likewise, but one for which there is none stays once, with NULL in all COLUMNS of that SOURCE; and so on.");
    Sessionstore x = eight();
    ask(x, "select * from T0 left T1 on b c1 = c0", "0,5,-,-;3,-,-,-;4,5,6,4;4,5,7,4;19,7,8,19");
    ask(x, "select * from T0 left T1 on null = 1", "0,5,-,-;3,-,-,-;4,5,-,-;19,7,-,-");
    ask(x, "select c0 , b c0 from T0 left T2 on 1 = 1", "0,-;3,-;4,-;19,-");
    ask(x, "select c0 from T2 left T0 on 1 = 1", "");
    ask(x, "select c0 , b c0 , c c0 from T0 left T2 on 1 = 1 left T1 on c c1 = b c0", "0,-,-;3,-,-;4,-,-;19,-,-");
    ask(x, "select c0 , b c0 , c c0 from T0 left T1 on b c1 = c0 left T1 on c c0 = b c0 + 1",
        "0,-,-;3,-,-;4,6,7;4,7,8;19,8,9");
    ask(x, "select c0 , b c0 , c c0 from T0 left T1 on b c1 = c0 join T1 on c c0 = b c0 + 1", "4,6,7;4,7,8;19,8,9");
    ask(x, "select c0 from T0 left T1 on b c1 = c0 where b c0 is null", "0;3");
    ask(x, "select c0 from T0 left T1 on b c1 = c0 and b c0 is null", "0;3;4;19");
  }

  private static void where() {
    T.says("Those for which where is TRUE are left.");
    Sessionstore x = four();
    ask(x, "select c0 from T0 where c1 = 5", "0;4");
    ask(x, "select c0 from T0 where c1 <> 5", "19");
    ask(x, "select c0 from T0 where not c1 = 5", "19");
    ask(x, "select c0 from T0 where null = null", "");
    ask(x, "select c0 from T0 where c1 = 5 or c1 <> 5", "0;4;19");
  }

  private static void groups() {
    T.says("GROUPED: those with like VALUES of all refs of group are one GROUP; GROUPS come in the sequence of their first"
        + " ones;");
    Sessionstore x = eight();
    Tests.must(x, 0, "insert T0 values ( 18 , null )");
    Tests.must(x, 0, "insert T0 values ( 1 , 7 )");
    ask(x, "select c1 , count ( * ) , min ( c0 ) , max ( c0 ) from T0 group c1", "5,2,0,4;7,2,1,19;-,2,3,18");
    ask(x, "select c0 from T0 group c0", "0;1;3;4;18;19");
    ask(x, "select c1 , b c1 , count ( * ) from T0 join T1 on b c0 < 8 group c1 , b c1 order c1", "-,4,4;5,4,4;7,4,4");
    ask(x, "select b c1 , c1 from T0 join T1 on c0 < 1 group b c1 , c1", "4,5;19,5;-,5");
    ask(x, "select b c1 , count ( * ) from T0 left T1 on b c0 = c0 + 6 group b c1", "4,2;-,4");
    ask(x, "select c1 from T0 where c1 is not null group c1", "5;7");
    Sessionstore y = new Sessionstore();
    Tests.must(y, 0, "create T0 ( c0 , c1 , c2 , c3 )");
    for (int key = 0; key < 16; key++) {
      Tests.must(y, 0, "insert T0 values ( " + key + " , " + key / 8 + " , " + key / 4 % 2 + " , " + key / 2 % 2 + " )");
    }
    ask(y, "select min ( c0 ) , count ( * ) from T0 group c1 , c2 , c3", "0,2;2,2;4,2;6,2;8,2;10,2;12,2;14,2");
    ask(y, "select c3 , min ( c0 ) from T0 group c3 , c2 , c1 having c1 = 0 order c2 desc , c3 desc", "1,6;0,4;1,2;0,0");
    ask(y, "select max ( c0 ) , c1 , c2 from T0 group c1 , c2", "3,0,0;7,0,1;11,1,0;15,1,1");
  }

  private static void groupOfNone() {
    T.says("without group there is one GROUP, also of none.");
    Sessionstore x = four();
    ask(x, "select count ( * ) from T0 where c0 > 19", "0");
    ask(x, "select 7 , sum ( c0 ) from T0 where c0 > 19", "7,-");
    ask(x, "select 1 from T0 where c0 > 19 having 1 = 1", "1");
    ask(x, "select 1 from T0 where c0 > 19 order count ( * )", "1");
    ask(x, "select 1 from T0 having 1 = 1", "1");
    ask(x, "select count ( * ) from T0", "4");
    ask(x, "select count ( * ) from T0 where c0 > 19 group c0", "");
    ask(x, "select c1 from T0 where c0 > 19 group c1", "");
    ask(x, "select ( select count ( * ) from T0 where c0 = outer c0 - 1 ) from T0", "0;0;1;0");
    Sessionstore y = new Sessionstore();
    Tests.must(y, 0, "create T0 ( c0 )");
    ask(y, "select count ( c0 ) , count ( * ) from T0", "0,0");
    ask(y, "select c0 from T0 group c0", "");
  }

  private static void having() {
    T.says("having: GROUPS for which it is TRUE.");
    Sessionstore x = four();
    ask(x, "select c1 from T0 group c1 having count ( * ) = 2", "5");
    ask(x, "select c1 from T0 group c1 having sum ( c1 ) <> 0", "5;7");
    ask(x, "select c1 from T0 group c1 having null = 1", "");
    ask(x, "select c1 from T0 group c1 having c1 is null", "-");
    ask(x, "select count ( * ) from T0 having count ( * ) > 3", "4");
    ask(x, "select count ( * ) from T0 having count ( * ) > 4", "");
    ask(x, "select count ( * ) from T0 where 1 = 2 having count ( * ) = 0", "0");
    ask(x, "select count ( * ) from T0 where 1 = 2 having max ( c0 ) = 0", "");
  }

  private static void order() {
    T.says("Then order: sorted by its items, the first one first, with desc the other way round, like ones as they were.");
    Sessionstore x = four();
    ask(x, "select c0 from T0 order c1", "3;0;4;19");
    ask(x, "select c0 from T0 order c1 desc", "19;0;4;3");
    ask(x, "select c0 from T0 order c1 , c0 desc", "3;4;0;19");
    ask(x, "select c0 from T0 order c1 desc , c0 desc", "19;4;0;3");
    ask(x, "select c0 from T0 order c0 desc , c1", "19;4;3;0");
    ask(x, "select c0 from T0 order 1", "0;3;4;19");
    ask(x, "select c0 from T0 order 1 desc", "0;3;4;19");
    ask(x, "select c0 from T0 order null desc , - c0", "19;4;3;0");
    ask(x, "select c1 from T0 group c1 order count ( * ) desc , c1 desc", "5;7;-");
    ask(x, "select c0 from T0 where c0 > 19 order c0", "");
    Sessionstore y = new Sessionstore();
    Tests.must(y, 0, "create T0 ( c0 , c1 )");
    StringBuilder byHalves = new StringBuilder();
    StringBuilder back = new StringBuilder();
    for (int k = 0; k < 20; k++) {
      Tests.must(y, 0, "insert T0 values ( " + k + " , " + k / 2 + " )");
    }
    for (int k = 9; k >= 0; k--) {
      byHalves.append(k < 9 ? ";" : "").append(2 * k).append(';').append(2 * k + 1);
      back.append(k < 9 ? ";" : "").append(2 * k + 1).append(';').append(2 * k);
    }
    ask(y, "select c0 from T0 order c1 desc", byHalves.toString());
    ask(y, "select c0 from T0 order c1 desc , c0 desc", back.toString());
    ask(y, "select c0 , b c0 from T0 join T0 on 1 = 1 order b c0 desc , c0 limit 3", "0,19;1,19;2,19");
    ask(y, "select c0 , b c0 from T0 join T0 on 1 = 1 order b c0 - c0 limit 2", "19,0;18,0");
    ask(y, "select c0 , b c0 , c c0 from T0 join T0 on 1 = 1 left T0 on 1 = 1 order c c0 , b c0 desc , 1 , c0 desc limit 2",
        "19,19,0;18,19,0");
    T.same("all of them", 8000, Tests.run(y, 0, "select * from T0 join T0 on 1 = 1 left T0 on 1 = 1 order c c0 desc"));
    T.same("the first", "0 0 19", y.value(0, 0, 0) + " " + y.value(0, 0, 2) + " " + y.value(0, 0, 4));
    T.same("the last", "19 19 0", y.value(0, 7999, 0) + " " + y.value(0, 7999, 2) + " " + y.value(0, 7999, 4));
  }

  private static void limits() {
    T.says("Then the first N.");
    Sessionstore x = four();
    ask(x, "select c0 from T0 limit 0", "");
    T.same("how many VALUES with 0 ROWS", 1, x.result(0, 2));
    T.same("how many ROWS", 0, x.result(0, 1));
    ask(x, "select c0 from T0 limit 1", "0");
    ask(x, "select c0 from T0 limit 3", "0;3;4");
    ask(x, "select c0 from T0 limit 4", "0;3;4;19");
    ask(x, "select c0 from T0 limit 5", "0;3;4;19");
    ask(x, "select c0 from T0 limit 99", "0;3;4;19");
    ask(x, "select c0 from T0 order c0 desc limit 2", "19;4");
    ask(x, "select c1 from T0 group c1 limit 2", "5;-");
    ask(x, "select count ( * ) from T0 limit 0", "");
    ask(x, "select count ( * ) from T0 limit 1", "4");
    run(x, "insert T0 select c0 + 1 , 0 from T0 limit 0", 0);
    run(x, "insert T0 select c0 + 1 , 0 from T0 limit 1", 1);
    T.same("rows", "0,5;1,0;3,-;4,5;19,7", x.table(0));
  }

  private static void whatIsTold() {
    T.says("what is reckoned for each (refs not in an aggregate: of the GROUP's first one); * is all COLUMNS of all SOURCES.");
    Sessionstore x = eight();
    ask(x, "select c1 + 1 , 2 , c0 from T0", "6,2,0;-,2,3;6,2,4;8,2,19");
    ask(x, "select * from T0 join T1 on b c0 = 6 join T2 on 1 = 1", "");
    ask(x, "select * from T0 join T1 on b c0 = 6 left T2 on 1 = 1 where c0 = 0", "0,5,6,4,-");
    T.same("five", 5, x.result(0, 2));
    ask(x, "select c1 , c1 * count ( * ) + max ( c0 ) from T0 group c1", "5,14;-,-;7,26");
    ask(x, "select c1 , ( select count ( * ) from T0 where c1 = outer c1 ) from T0 group c1", "5,2;-,0;7,1");
  }

  private static void counts() {
    T.says("Aggregates, over those of the GROUP: count(*) how many; of expr: how many are not NULL;");
    Sessionstore x = four();
    ask(x, "select count ( * ) , count ( c1 ) , count ( 1 ) , count ( null ) from T0", "4,3,4,0");
    ask(x, "select count ( c1 + c0 ) , count ( c0 / ( c0 - 3 ) ) from T0", "3,3");
    ask(x, "select count ( * ) , count ( c1 ) from T0 where c1 is null", "1,0");
    ask(x, "select count ( * ) , count ( c1 ) from T0 where 1 = 2", "0,0");
  }

  private static void sums() {
    T.says("sum (of those not NULL; NULL without any, or beyond the bounds at the end),");
    Sessionstore x = four();
    ask(x, "select sum ( c1 ) , sum ( null ) from T0", "17,-");
    ask(x, "select sum ( c1 ) from T0 where c1 is null", "-");
    ask(x, "select sum ( c1 ) from T0 where 1 = 2", "-");
    ask(x, "select sum ( 25 * 99 ) from T0", "9900");
    ask(x, "select sum ( 25 * 99 ) + 99 from T0", "9999");
    ask(x, "select sum ( 25 * 99 + 25 ) from T0", "-");
    ask(x, "select sum ( - 25 * 99 ) , sum ( - 25 * 99 - 25 ) from T0", "-9900,-");
    Tests.must(x, 0, "update T0 set c1 = 99 * 99 where c0 < 4");
    Tests.must(x, 0, "update T0 set c1 = - 99 * 99 where c0 = 4");
    Tests.must(x, 0, "update T0 set c1 = 99 + 99 where c0 = 19");
    ask(x, "select sum ( c1 ) from T0", "9999");
    Tests.must(x, 0, "update T0 set c1 = 99 + 99 + 1 where c0 = 19");
    ask(x, "select sum ( c1 ) from T0", "-");
    ask(x, "select sum ( - c1 ) from T0", "-");
    ask(x, "select sum ( c1 ) - 1 from T0", "-");
    Tests.must(x, 0, "update T0 set c1 = 99 + 99 where c0 = 19");
    ask(x, "select sum ( - c1 ) from T0", "-9999");
  }

  private static void leastAndMost() {
    T.says("min, max (of those not NULL, NULL without any).");
    Sessionstore x = four();
    ask(x, "select min ( c1 ) , max ( c1 ) , min ( - c1 ) , max ( - c1 ) from T0", "5,7,-7,-5");
    ask(x, "select min ( c1 ) , max ( c1 ) from T0 where c1 is null", "-,-");
    ask(x, "select min ( c1 ) , max ( c1 ) from T0 where 1 = 2", "-,-");
    ask(x, "select min ( 99 * 99 + 99 + 99 ) , max ( - 99 * 99 - 99 - 99 ) from T0", "9999,-9999");
    ask(x, "select min ( c0 ) , max ( c0 ) from T0", "0,19");
    ask(x, "select min ( - c0 ) , max ( - c0 ) from T0", "-19,0");
    Tests.must(x, 0, "update T0 set c1 = 8 where c0 = 0");
    ask(x, "select min ( c1 ) , max ( c1 ) , min ( - c1 ) , max ( - c1 ) from T0", "5,8,-8,-5");
    ask(x, "select min ( c1 ) , max ( c1 ) from T0 where c0 < 4", "8,8");
  }

  private static void queryAsFactor() {
    T.says("A query as a factor: its first ROW's VALUE, NULL without a ROW. Behind in: the VALUES of its ROWS.");
    Sessionstore x = four();
    ask(x, "select ( select c0 from T0 where c1 = outer c1 order c0 desc ) from T0", "4;-;4;19");
    ask(x, "select ( select c1 from T0 where c0 = 3 ) , ( select c1 from T0 where c0 = 5 ) from T0 limit 1", "-,-");
    ask(x, "select ( select c0 from T0 limit 0 ) from T0 limit 1", "-");
    ask(x, "select ( select c0 from T0 order c0 desc limit 1 ) + 1 from T0 limit 1", "20");
    ask(x, "select c0 from T0 where c0 in ( select c1 - 1 from T0 )", "4");
    ask(x, "select c0 from T0 where c0 not in ( select c1 - 1 from T0 )", "");
    ask(x, "select c0 from T0 where c0 not in ( select c1 - 1 from T0 limit 1 )", "0;3;19");
    ask(x, "select c0 from T0 where c1 in ( select c1 from T0 where c0 = outer c0 + 4 )", "0");
  }

  private static void inserts() {
    T.says("insert: ROWS of the VALUES, or of the query (as it is ahead of the statement).");
    Sessionstore x = four();
    run(x, "insert T0 values ( 2 * 4 , null )", 1);
    run(x, "insert T0 select c0 + 1 , c1 from T0 where c0 in ( 4 , 8 )", 2);
    T.same("rows", "0,5;3,-;4,5;5,5;8,-;9,-;19,7", x.table(0));
    run(x, "insert T0 select 10 , count ( * ) from T0", 1);
    T.same("counted ahead of it", 7, x.cell(0, 10, 1));
    run(x, "insert T0 select c0 + 11 , ( select count ( * ) from T0 ) from T0 where c0 < 4 order c0 desc", 2);
    T.same("each ahead of the statement", "8 8", x.cell(0, 11, 1) + " " + x.cell(0, 14, 1));
  }

  private static void updates() {
    T.says("update: the ROWS for which where is TRUE (all without where) get all new VALUES at once, each reckoned from the"
        + " old ROWS.");
    Sessionstore x = four();
    run(x, "update T0 set c1 = 1 where c1 = 5", 2);
    run(x, "update T0 set c1 = 2 where c1 <> 1", 1);
    T.same("not where it is UNKNOWN", "0,1;3,-;4,1;19,2", x.table(0));
    run(x, "update T0 set c1 = c0 , c0 = c1 where c0 = 19", 1);
    T.same("at once", "0,1;2,19;3,-;4,1", x.table(0));
    run(x, "update T0 set c1 = ( select sum ( c1 ) from T0 )", 4);
    T.same("of the old rows", "0,21;2,21;3,21;4,21", x.table(0));
    run(x, "update T0 set c0 = 4 - c0", 4);
    T.same("keys at once", "0,21;1,21;2,21;4,21", x.table(0));
    run(x, "update T0 set c1 = c1 where c0 < 2", 2);
    T.same("as they were", "0,21;1,21;2,21;4,21", x.table(0));
  }

  private static void deletes() {
    T.says("delete: these ROWS go.");
    Sessionstore x = four();
    run(x, "delete T0 where c1 > 5", 1);
    run(x, "delete T0 where c1 <> 5", 0);
    T.same("not where it is UNKNOWN", "0,5;3,-;4,5", x.table(0));
    run(x, "delete T0 where c0 in ( select max ( c0 ) from T0 )", 1);
    run(x, "delete T0", 2);
    T.same("all without where", "", x.table(0));
  }

  private static void withoutRows() {
    T.says("1 CHANGED (how many ROWS: those put in, or for which where is TRUE, also if they are as they were;");
    Sessionstore x = four();
    int records = x.disc(0);
    run(x, "delete T0 where c0 = 18", 0);
    run(x, "update T0 set c1 = 1 where c0 = 18", 0);
    run(x, "insert T0 select c0 , c1 from T0 where c0 = 18", 0);
    T.same("each is a transaction", 7, x.house(6));
    T.same("without a COMMIT number", 4, x.disc(4));
    T.same("without RECORDS", records, x.disc(0));
    T.same("no answer", "", x.answer(0));
    T.same("0 ROWS", 0, x.result(0, 1));
    T.says("also if they are as they were; these have RECORDS and VERSIONS, too),");
    run(x, "update T0 set c1 = c1 where c0 = 0", 1);
    T.same("as it was has a number", 5, x.disc(4));
    T.same("and RECORDS", records + 2, x.disc(0));
    T.same("and VERSIONS", "3:0,5 5:0,5", x.versions(0, 0));
  }

  private static Sessionstore strict() {
    Sessionstore x = new Sessionstore();
    Tests.must(x, 0, "create T0 ( c0 , c1 notnull , c2 ) check c1 <= 5 and c2 <> 3");
    return x;
  }

  private static void keyed() {
    T.says("5 KEYED: its KEY is NULL or not 0 to 19;");
    Sessionstore x = strict();
    run(x, "insert T0 values ( null , 1 , 1 )", -15);
    run(x, "insert T0 values ( - 1 , 1 , 1 )", -15);
    run(x, "insert T0 values ( 20 , 1 , 1 )", -15);
    run(x, "insert T0 values ( 99 * 99 , 1 , 1 )", -15);
    run(x, "insert T0 values ( 32 , 1 , 1 )", -15);
    run(x, "insert T0 values ( 0 , 1 , 1 )", 1);
    run(x, "insert T0 values ( 19 , 1 , 1 )", 1);
    run(x, "update T0 set c0 = c0 + 1", -15);
    run(x, "update T0 set c0 = null where c0 = 0", -15);
    run(x, "update T0 set c0 = c0 + 19 where c0 = 1", 0);
    T.same("rows", "0,1,1;19,1,1", x.table(0));
  }

  private static void nulled() {
    T.says("6 NULLED: NULL where NOTNULL;");
    Sessionstore x = strict();
    run(x, "insert T0 values ( 1 , null , 1 )", -16);
    run(x, "insert T0 values ( 1 , 1 / 0 , 1 )", -16);
    run(x, "insert T0 values ( 1 , 99 * - 99 * 2 , 1 )", -16);
    run(x, "insert T0 values ( 1 , 1 , null )", 1);
    run(x, "update T0 set c1 = null", -16);
    run(x, "update T0 set c2 = null", 1);
    Sessionstore y = new Sessionstore();
    Tests.must(y, 0, "create T0 ( c0 notnull , c1 , c2 , c3 notnull )");
    run(y, "insert T0 values ( null , 1 , 1 , 1 )", -15);
    run(y, "insert T0 values ( 1 , 1 , 1 , null )", -16);
    run(y, "insert T0 values ( 1 , null , null , 0 )", 1);
  }

  private static void checked() {
    T.says("7 CHECKED: CHECK is FALSE.");
    Sessionstore x = strict();
    run(x, "insert T0 values ( 1 , 6 , 1 )", -17);
    run(x, "insert T0 values ( 1 , 5 , 3 )", -17);
    run(x, "insert T0 values ( 1 , 6 , null )", -17);
    run(x, "insert T0 values ( 1 , 5 , null )", 1);
    run(x, "insert T0 values ( 2 , 5 , 4 )", 1);
    run(x, "update T0 set c1 = c1 + 1 where c0 = 2", -17);
    run(x, "update T0 set c2 = c2 - 1", -17);
    T.same("UNKNOWN is not FALSE", "1,5,-;2,5,4", x.table(0));
    Sessionstore y = new Sessionstore();
    Tests.must(y, 0, "create T0 ( c0 , c1 ) check not [ c0 = c1 ] and c0 in ( 1 , 2 , c1 + 1 )");
    run(y, "insert T0 values ( 1 , 1 )", -17);
    run(y, "insert T0 values ( 3 , 1 )", -17);
    run(y, "insert T0 values ( 3 , 2 )", 1);
    run(y, "insert T0 values ( 4 , null )", 1);
  }

  private static void rowByRow() {
    T.says("Then, with the ROWS that are new or changed by their sequence (of update by their old KEYS), the first of these"
        + " that holds is the ERROR: for each such ROW: 5 KEYED:");
    Sessionstore x = strict();
    Tests.must(x, 0, "insert T0 values ( 1 , 1 , null )");
    Tests.must(x, 0, "insert T0 values ( 2 , 2 , null )");
    Tests.must(x, 0, "insert T0 values ( 3 , 3 , null )");
    run(x, "update T0 set c0 = 22 - c0 , c1 = 2 / ( 3 - c0 )", -15);
    run(x, "update T0 set c0 = 17 + c0 , c1 = 2 / ( 3 - c0 )", -15);
    run(x, "update T0 set c0 = 17 + c0 , c1 = 2 / ( 2 - c0 )", -16);
    run(x, "update T0 set c0 = 17 + c0 , c1 = 7 - c0", -17);
    run(x, "update T0 set c0 = 17 + c0 , c1 = 6 - c0", -15);
    run(x, "update T0 set c1 = 3 / ( c0 - 2 ) + 5", -16);
    run(x, "update T0 set c1 = 7 - c0 - c0 / 3 / ( c0 - 3 )", -17);
    run(x, "update T0 set c1 = c0 + 3 , c2 = 1 / ( c0 - 3 )", -17);
    run(x, "insert T0 select c0 + 17 , 7 - c0 , null from T0", -17);
    run(x, "insert T0 select c0 + 17 , 7 - c0 , null from T0 order c0 desc", -15);
    run(x, "insert T0 select c0 + 16 , 1 / ( c0 - 1 ) , c0 from T0", -16);
    run(x, "insert T0 select c0 + 16 , 1 / ( c0 - 1 ) , c0 from T0 order c0 desc", -17);
    T.same("nothing is done", "1,1,-;2,2,-;3,3,-", x.table(0));
    T.says("for each such ROW: 5 KEYED: its KEY is NULL or not 0 to 19; 6 NULLED: NULL where NOTNULL; 7 CHECKED: CHECK is"
        + " FALSE.");
    run(x, "insert T0 values ( 20 , null , 3 )", -15);
    run(x, "insert T0 values ( 20 , 6 , 3 )", -15);
    run(x, "insert T0 values ( 1 , null , 3 )", -16);
    run(x, "insert T0 values ( 1 , 6 , 1 )", -17);
  }

  private static void doubled() {
    T.says("Then 8 DOUBLE: two ROWS would have the same KEY.");
    Sessionstore x = four();
    run(x, "insert T0 values ( 4 , 1 )", -18);
    run(x, "insert T0 values ( 0 , 1 )", -18);
    run(x, "insert T0 values ( 19 , 1 )", -18);
    run(x, "insert T0 select 5 , c1 from T0", -18);
    run(x, "insert T0 select 5 , c1 from T0 limit 1", 1);
    run(x, "update T0 set c0 = 4 where c0 = 3", -18);
    run(x, "update T0 set c0 = 6 where c0 > 3", -18);
    run(x, "update T0 set c0 = c0 + 1 where c0 in ( 3 , 4 )", -18);
    run(x, "update T0 set c0 = c0 + 1 where c0 in ( 3 , 4 , 5 )", 3);
    run(x, "update T0 set c0 = 10 - c0 where c0 in ( 4 , 6 )", 2);
    T.same("exchanged", "0,5;4,5;5,5;6,-;19,7", x.table(0));
    x.begin(0, 0);
    run(x, "insert T0 values ( 1 , 1 )", 1);
    run(x, "insert T0 values ( 1 , 1 )", -18);
    run(x, "delete T0 where c0 = 0", 1);
    run(x, "insert T0 values ( 0 , 9 )", 1);
    T.same("a KEY that went is free", "0,9;1,1;4,5;5,5;6,-;19,7", x.seen(0, 0));
  }

  private static void errorsInSequence() {
    T.says("Then 9 CONFLICT (section 4). Then 10 LOST:");
    Sessionstore x = new Sessionstore();
    Tests.must(x, 0, "create T0 ( c0 , c1 )");
    Tests.must(x, 0, "create T1 ( c0 , c1 refs T0 ) check c0 <> 9");
    Tests.must(x, 0, "insert T0 values ( 1 , 1 )");
    Tests.must(x, 0, "insert T1 values ( 1 , 1 )");
    Tests.must(x, 0, "insert T1 values ( 2 , 1 )");
    x.begin(0, 1);
    Tests.must(x, 1, "update T1 set c1 = null where c0 = 1");
    run(x, "insert T1 values ( 9 , 7 )", -17);
    run(x, "insert T1 values ( 1 , 7 )", -18);
    run(x, "update T1 set c0 = 2 , c1 = 7 where c0 = 1", -18);
    T.same("the transaction stays", 1, x.ofSession(0, 0));
    run(x, "update T1 set c1 = 7 where c0 = 2", -20);
    T.same("the transaction stays", 1, x.ofSession(0, 0));
    run(x, "update T1 set c1 = 7 where c0 = 1", -19);
    T.same("the transaction is rolled back", -1, x.ofSession(0, 0));
    run(x, "insert T1 values ( 2 , 7 )", -18);
    run(x, "insert T1 values ( 3 , 7 )", -20);
  }

  private static Sessionstore referring() {
    Sessionstore x = new Sessionstore();
    Tests.must(x, 0, "create T0 ( c0 , c1 )");
    Tests.must(x, 0, "create T1 ( c0 , c1 refs T0 , c2 refs T0 )");
    Tests.must(x, 0, "create T2 ( c0 refs T0 )");
    for (int k = 0; k < 4; k++) {
      Tests.must(x, 0, "insert T0 values ( " + k + " , 0 )");
    }
    return x;
  }

  private static void lostReference() {
    T.says("a reference of such a ROW has no ROW;");
    Sessionstore x = referring();
    run(x, "insert T1 values ( 1 , 3 , 0 )", 1);
    run(x, "insert T1 values ( 2 , 4 , 0 )", -20);
    run(x, "insert T1 values ( 2 , 0 , 4 )", -20);
    run(x, "insert T1 values ( 2 , - 1 , null )", -20);
    run(x, "insert T1 values ( 2 , 20 , null )", -20);
    run(x, "insert T1 values ( 2 , 99 * 99 , null )", -20);
    run(x, "insert T1 values ( 2 , null , null )", 1);
    run(x, "update T1 set c1 = c1 + 1", -20);
    run(x, "update T1 set c1 = c1 - 1", 2);
    run(x, "insert T2 values ( 4 )", -20);
    run(x, "insert T2 values ( 3 )", 1);
    run(x, "insert T2 select c0 + 1 from T0", -18);
    run(x, "insert T2 select c0 + 1 from T0 where c0 <> 2", -20);
    run(x, "insert T2 select c0 from T0 where c0 < 3", 3);
    run(x, "update T2 set c0 = c0 + 1", -20);
  }

  private static void lostReferred() {
    T.says("or, a ROW with a KEY that would be there no more is REFERRED to.");
    Sessionstore x = referring();
    Tests.must(x, 0, "insert T1 values ( 9 , 3 , 2 )");
    Tests.must(x, 0, "insert T2 values ( 1 )");
    run(x, "delete T0 where c0 = 3", -20);
    run(x, "delete T0 where c0 = 2", -20);
    run(x, "delete T0 where c0 = 1", -20);
    run(x, "delete T0", -20);
    run(x, "delete T0 where c0 = 0", 1);
    run(x, "update T0 set c0 = 9 where c0 = 3", -20);
    run(x, "update T0 set c0 = c0 + 1", -20);
    run(x, "update T0 set c0 = 4 - c0", 3);
    T.same("the KEYS are there still", "1,0;2,0;3,0", x.table(0));
    run(x, "update T0 set c0 = c0 , c1 = c0", 3);
    run(x, "delete T2", 1);
    run(x, "delete T0 where c0 = 1", 1);
  }

  private static void lostAtTheEdges() {
    T.says("a reference of such a ROW has no ROW; or, a ROW with a KEY that would be there no more is REFERRED to.");
    Sessionstore x = new Sessionstore();
    Tests.must(x, 0, "create T3 ( c0 )");
    Tests.must(x, 0, "create T0 ( c0 , c1 refs T3 )");
    Tests.must(x, 0, "insert T3 values ( 0 )");
    Tests.must(x, 0, "insert T3 values ( 19 )");
    run(x, "insert T0 values ( 0 , 0 )", 1);
    run(x, "delete T3 where c0 = 0", -20);
    run(x, "update T3 set c0 = 1 where c0 = 0", -20);
    run(x, "update T0 set c1 = 19", 1);
    run(x, "delete T3 where c0 = 19", -20);
    run(x, "delete T3 where c0 = 0", 1);
    run(x, "insert T0 values ( 19 , 0 )", -20);
    run(x, "insert T0 values ( 19 , 19 )", 1);
    run(x, "delete T0 where c0 = 0", 1);
    run(x, "delete T3", -20);
    T.same("COLUMNS that refer", 1, x.ofTable(3, 4));
    T.same("VALUES that refer", 1, x.referring(3, 19));
    T.same("the drop of the other one", -14, Tests.run(x, 0, "drop T3"));
    run(x, "delete T0", 1);
    run(x, "delete T3", 1);
  }

  private static void lostIsOfWhatIsCommitted() {
    T.says("10 LOST is looked at with ROWS as they are COMMITTED now, and as the transaction has changed them (whatever it"
        + " sees).");
    Sessionstore x = referring();
    x.begin(0, 1);
    Tests.must(x, 1, "delete T0 where c0 = 3");
    Tests.must(x, 1, "insert T0 values ( 7 , 0 )");
    Tests.must(x, 1, "insert T1 values ( 5 , 2 , null )");
    T.same("it sees", "0,0;1,0;2,0;3,0", x.seen(0, 0));
    run(x, "insert T1 values ( 1 , 3 , null )", -20);
    run(x, "insert T1 values ( 1 , 7 , null )", 1);
    run(x, "delete T0 where c0 = 2", -20);
    run(x, "insert T0 values ( 8 , 0 )", 1);
    run(x, "insert T1 values ( 2 , 8 , null )", 1);
    run(x, "delete T0 where c0 = 8", -20);
    run(x, "update T1 set c1 = null where c0 = 2", 1);
    run(x, "delete T0 where c0 = 8", 1);
    run(x, "delete T0 where c0 = 1", 1);
    run(x, "insert T1 values ( 3 , 1 , null )", -20);
    T.same("commit", 8, x.commit(0));
    T.same("sound", true, x.isSound());
  }

  private static void definitionsNotNow() {
    T.says("create, drop, index: 4 NOT NOW: if a transaction is open in some session (or WAITS); or, create: there is that"
        + " TABLE; drop: another TABLE REFERS to it (of a TABLE that is not there NAME is told, ahead of NOT NOW); index:"
        + " there is that INDEX.");
    Sessionstore x = referring();
    String[] texts = {"create T3 ( c0 )", "drop T1", "index T0 c1"};
    for (int session = 0; session < 4; session++) {
      x.begin(session, session % 3);
      for (String text : texts) {
        T.same(text + " with one open in " + session, -14, Tests.run(x, 0, text));
        T.same("its place", -1, x.result(0, 4));
      }
      T.same("drop of none", -12, Tests.run(x, 0, "drop T3"));
      x.commit(session);
    }
    T.same("create of one that there is", -14, Tests.run(x, 0, "create T0 ( c0 )"));
    T.same("drop of one to which others refer", -14, Tests.run(x, 0, "drop T0"));
    T.same("index", 0, Tests.run(x, 0, "index T0 c1"));
    T.same("index of one that there is", -14, Tests.run(x, 0, "index T0 c1"));
    T.same("index of another column", 0, Tests.run(x, 0, "index T0 c0"));
    T.same("drop of one that refers", 0, Tests.run(x, 0, "drop T1"));
    T.same("another refers still", -14, Tests.run(x, 0, "drop T0"));
    T.same("drop of the last that refers", 0, Tests.run(x, 0, "drop T2"));
    T.same("drop", 0, Tests.run(x, 0, "drop T0"));
    T.same("drop again", -12, Tests.run(x, 0, "drop T0"));
    T.same("its kind", 3, x.result(0, 0));
    T.same("none took a number", 8, x.house(6));
  }

  private static void definitionsMakeSafe() {
    T.says("They make all RECORDS SAFE.");
    String[] texts = {"create T3 ( c0 )", "drop T2", "index T0 c1"};
    for (String text : texts) {
      Sessionstore x = referring();
      x.lazy(true);
      Tests.must(x, 0, "insert T0 values ( 9 , 9 )");
      T.same("not safe", "10 8 5 4", x.disc(0) + " " + x.disc(1) + " " + x.disc(4) + " " + x.disc(5));
      T.same("not by an error", -14, Tests.run(x, 0, "create T0 ( c0 )"));
      T.same("not safe still", 8, x.disc(1));
      T.same(text, 0, Tests.run(x, 0, text));
      T.same("safe", "10 10 5 5", x.disc(0) + " " + x.disc(1) + " " + x.disc(4) + " " + x.disc(5));
      T.same("nothing is lost", 0, x.crash(true));
    }
  }

  private static void dropTakesAll() {
    T.says("drop takes ROWS, VERSIONS, CHECK and INDEXES with it.");
    Sessionstore x = new Sessionstore();
    Tests.must(x, 0, "create T0 ( c0 , c1 notnull ) check c1 < 5");
    Tests.must(x, 0, "index T0 c0");
    Tests.must(x, 0, "index T0 c1");
    Tests.must(x, 0, "insert T0 values ( 1 , 1 )");
    Tests.must(x, 0, "update T0 set c1 = 2");
    T.same("ahead", "2 1 2 2 0 1", x.ofTable(0, 0) + " " + x.ofTable(0, 1) + " " + x.ofTable(0, 2) + " " + x.ofTable(0, 3)
        + " " + x.ofTable(0, 4) + " " + x.ofTable(0, 5));
    Tests.must(x, 0, "drop T0");
    for (int what = 0; what <= 5; what++) {
      T.same("ofTable " + what, 0, x.ofTable(0, what));
    }
    T.same("rows", "", x.table(0));
    T.same("versions", "", x.versions(0, 1));
    T.same("text", "", x.made(0));
    T.same("in all", "0 0 0 0", x.house(0) + " " + x.house(1) + " " + x.house(2) + " " + x.house(7));
    Tests.must(x, 0, "create T0 ( c0 , c1 )");
    T.same("nothing of it comes again", "2 0 0 0 0 0", x.ofTable(0, 0) + " " + x.ofTable(0, 1) + " " + x.ofTable(0, 2) + " "
        + x.ofTable(0, 3) + " " + x.ofTable(0, 4) + " " + x.ofTable(0, 5));
    run(x, "insert T0 values ( 1 , null )", 1);
    T.same("versions anew", "3:1,-", x.versions(0, 1));
    x.crash(false);
    x.recover(-1);
    T.same("also behind a crash", "1,-", x.table(0));
  }
}
