/** Promises 1 to 4 and 20 to 22: what is typed, and what is wrong with it. */
public final class TypingTest {
  private static final Tests T = new Tests("TypingTest");

  public static void main(String[] args) {
    promise1New();
    promise2Say();
    promise3Sample();
    promise4Wipe();
    promise20Typed();
    promise21Syntax();
    promise21Nesting();
    promise21Names();
    promise21NamesOfCreate();
    promise21Misplaced();
    promise21Grouped();
    promise21OuterInGrouped();
    promise21Refused();
    promise22Token();
    T.end();
  }

  private static void promise1New() {
    Sessionstore x = new Sessionstore();
    T.same("power", 1, x.disc(2));
    T.same("tables", 0, x.house(0));
    T.same("transactions", 0, x.house(6));
    T.same("typed", "", x.typed(3));
    T.same("result", 0, x.result(0, 0));
    T.same("place", -1, x.result(0, 4));
    T.same("digest", -1920201251422017080L, x.digest());
  }

  private static void promise2Say() {
    Sessionstore x = new Sessionstore();
    T.same("nothing", 0, x.say(0, -1, -1, -1, -1, -1));
    T.same("two", 2, x.say(0, -1, 0, -1, 33, -1));
    T.same("behind", 4, x.say(0, 1, -1, -1, -1, 52));
    T.same("typed", "select * from T0", x.typed(0));
    T.same("another session", "", x.typed(1));
    T.same("bounds", 5, x.say(1, 0, 59, 100, 199, 55));
    T.fails("session 4", Tests.OUT, x, () -> x.say(4, 200, 0, 0, 0, 0));
    T.fails("session -1", Tests.OUT, x, () -> x.say(-1, 0, 0, 0, 0, 0));
    T.fails("token 60", Tests.ARGUMENT, x, () -> x.say(0, 0, 0, 0, 0, 60));
    T.fails("token 99", Tests.ARGUMENT, x, () -> x.say(0, 99, 0, 0, 0, 0));
    T.fails("token 200", Tests.ARGUMENT, x, () -> x.say(0, 0, 200, 0, 0, 0));
    T.fails("token -2", Tests.ARGUMENT, x, () -> x.say(0, 0, 0, -2, 0, 0));
    for (int i = 0; i < 11; i++) {
      x.say(0, 35, 35, 35, 35, 35);
    }
    T.same("59", 59, x.say(0, -1, -1, -1, -1, -1));
    T.fails("61", Tests.STATE, x, () -> x.say(0, 35, 35, -1, -1, -1));
    T.same("60", 60, x.say(0, -1, 35, -1, -1, -1));
    T.same("60 still", 60, x.say(0, -1, -1, -1, -1, -1));
    x.crash(false);
    T.fails("off", Tests.STATE, x, () -> x.say(0, 0, 0, 0, 0, 0));
    T.fails("off, no token", Tests.ARGUMENT, x, () -> x.say(0, 60, 0, 0, 0, 0));
  }

  private static void promise3Sample() {
    String[] texts = {
      "create T0 ( c0 , c1 , c2 notnull ) check c1 <= 50",
      "create T1 ( c0 , c1 refs T0 , c2 )",
      "index T0 c1",
      "insert T0 values ( 7 , 99 , 1 )",
      "insert T1 values ( 7 , 99 , 2 )",
      "update T0 set c1 = c1 + 99 where c0 = 7",
      "update T0 set c1 = c1 - 1 where c1 > 99",
      "delete T0 where c0 = 7",
      "delete T1 where c1 = 7",
      "select * from T0 where c0 >= 7 and c0 <= 99",
      "select c0 , c1 * 2 from T0 where c1 > 99 order c1 desc , c0 limit 7",
      "select a c0 , b c0 , b c2 from T0 join T1 on b c1 = a c0",
      "select c0 , count ( b c0 ) from T0 left T1 on b c1 = a c0 group c0 having count ( b c0 ) <= 99",
      "select c0 from T0 where c0 not in ( select c1 from T1 where c2 > 7 )",
      "select sum ( c1 ) , max ( c2 ) from T0 where exists ( select c0 from T1 where c1 = outer c0 )",
      "insert T1 select c0 + 7 , c0 , c1 from T0 where c1 > 99",
      "update T1 set c1 = null , c2 = ( select max ( c1 ) from T0 ) where c0 = 7",
      "select count ( * ) from T0",
      "update T0 set c0 = 99 where c0 = 7",
      "drop T1"};
    Sessionstore x = new Sessionstore();
    for (int i = 0; i < texts.length; i++) {
      T.same("tokens of sample " + i, texts[i].split(" ").length, x.sample(2, i, 7, 99));
      T.same("sample " + i, texts[i], x.typed(2));
    }
    T.fails("session 4", Tests.OUT, x, () -> x.sample(4, 20, 0, 0));
    T.fails("sample 20", Tests.ARGUMENT, x, () -> x.sample(0, 20, 0, 0));
    T.fails("sample -1", Tests.ARGUMENT, x, () -> x.sample(0, -1, 0, 0));
    T.fails("x 100", Tests.ARGUMENT, x, () -> x.sample(0, 0, 100, 0));
    T.fails("y -1", Tests.ARGUMENT, x, () -> x.sample(0, 0, 0, -1));
    x.crash(false);
    T.fails("off", Tests.STATE, x, () -> x.sample(0, 0, 0, 0));
  }

  private static void promise4Wipe() {
    Sessionstore x = new Sessionstore();
    x.sample(0, 17, 0, 0);
    T.same("one", 6, x.wipe(0, 1));
    T.same("typed", "select count ( * ) from", x.typed(0));
    T.fails("none", Tests.ARGUMENT, x, () -> x.wipe(0, 0));
    T.fails("session -1", Tests.OUT, x, () -> x.wipe(-1, 0));
    T.same("all but one", 1, x.wipe(0, 5));
    T.same("more than all", 0, x.wipe(0, Integer.MAX_VALUE));
    T.same("of nothing", 0, x.wipe(0, 1));
    x.crash(false);
    T.fails("off", Tests.STATE, x, () -> x.wipe(0, 1));
  }

  private static void promise20Typed() {
    Sessionstore x = new Sessionstore();
    StringBuilder all = new StringBuilder();
    for (int i = 0; i < 60; i++) {
      x.say(1, i, -1, -1, -1, -1);
    }
    all.append("select from where group having order desc limit join left on insert values update set delete create");
    all.append(" drop index check refs notnull and or not is null in exists count sum min max * + - / ( ) [ ] , = <>");
    all.append(" < <= > >= outer a b c T0 T1 T2 T3 c0 c1 c2 c3");
    T.same("all words", all.toString(), x.typed(1));
    x.say(0, 100, 109, 110, 199, -1);
    T.same("numbers", "0 9 10 99", x.typed(0));
    T.fails("session 4", Tests.OUT, x, () -> x.typed(4));
    x.crash(false);
    T.fails("off", Tests.STATE, x, () -> x.typed(0));
  }

  private static void fault(Sessionstore x, String text, String want) {
    T.same(text, want, Tests.fault(x, 0, text));
  }

  private static void promise21Syntax() {
    Sessionstore x = Tests.samples(0, 1);
    fault(x, "", "1@0");
    fault(x, "select", "1@1");
    fault(x, "from T0", "1@0");
    fault(x, "values", "1@0");
    fault(x, "set", "1@0");
    fault(x, "select c0 from", "1@3");
    fault(x, "select c0 from c0", "1@3");
    fault(x, "select c0 from T0 T0", "1@4");
    fault(x, "select * , c0 from T0", "1@2");
    fault(x, "select c0 * from T0", "1@3");
    fault(x, "select c0 from T0 where", "1@5");
    fault(x, "select c0 from T0 where c0", "1@6");
    fault(x, "select c0 from T0 where c0 not = 1", "1@7");
    fault(x, "select c0 from T0 where c0 is 1", "1@7");
    fault(x, "select c0 from T0 where c0 is not 1", "1@8");
    fault(x, "select c0 from T0 where c0 in ( )", "1@8");
    fault(x, "select c0 from T0 where [ c0 = 1", "1@9");
    fault(x, "select c0 from T0 where ( c0 = 1 )", "1@7");
    fault(x, "select c0 from T0 limit c0", "1@5");
    fault(x, "select c0 from T0 limit 1 order c0", "1@6");
    fault(x, "select c0 from T0 group c0 + 1", "1@6");
    fault(x, "select sum ( * ) from T0", "1@3");
    fault(x, "select count ( * + 1 ) from T0", "1@4");
    fault(x, "select outer outer c0 from T0", "1@2");
    fault(x, "select a b c0 from T0", "1@2");
    fault(x, "select 1 from T0 join T0", "1@6");
    fault(x, "select 1 from T0 join T0 on 1 = 1 left T0 on 1 = 1 join T0 on 1 = 1", "1@17");
    fault(x, "select 1 from T0 join T0 on 1 = 1 left T0 on 1 = 1 left", "1@17");
    fault(x, "insert T0", "1@2");
    fault(x, "insert T0 values 1", "1@3");
    fault(x, "insert T0 values ( 1 , )", "1@6");
    fault(x, "update T0 set c0", "1@4");
    fault(x, "update T0 set c0 = 1 , where", "1@7");
    fault(x, "delete T0 c0", "1@2");
    fault(x, "create T2 ( c0 refs T0 notnull )", "1@6");
    fault(x, "create T2 ( 1 )", "1@3");
    fault(x, "create T2 ( c0 ) where", "1@5");
    fault(x, "drop T0 T1", "1@2");
    fault(x, "index T0", "1@2");
    fault(x, "index T0 1", "1@2");
    fault(x, "select a c0 , - 1 * c1 / ( 2 - c2 ) from T0 where not c0 in ( 1 , null ) or [ c0 is not null and c1 < 1 ]", "");
    fault(x, "select c0 from T0 group c0 having count ( * ) > 1 order sum ( c1 ) desc , c0 limit 5", "");
  }

  private static void promise21Nesting() {
    Sessionstore x = Tests.samples(0, 1);
    fault(x, "select - - - - c0 from T0", "");
    fault(x, "select - - - - - c0 from T0", "1@5");
    fault(x, "select - - - - c0 - c0 from T0", "");
    fault(x, "select ( ( ( ( c0 ) ) ) ) from T0", "");
    fault(x, "select ( ( ( ( ( c0 ) ) ) ) ) from T0", "1@5");
    fault(x, "select - ( - ( count ( c0 ) ) ) from T0", "1@6");
    fault(x, "select - ( - count ( c0 ) ) from T0", "");
    fault(x, "select c0 from T0 where not [ not [ c0 = 1 ] ]", "");
    fault(x, "select c0 from T0 where not [ not [ not c0 = 1 ] ]", "1@9");
    fault(x, "select c0 from T0 where not [ not [ c0 = ( 1 ) ] ]", "1@11");
    fault(x, "select c0 from T0 where not [ not [ c0 in ( 1 ) ] ]", "1@11");
    fault(x, "select c0 from T0 where not [ not [ c0 is not null ] ]", "");
    fault(x, "select c0 from T0 where not [ not [ exists ( select c0 from T1 ) ] ]", "1@10");
    fault(x, "select c0 from T0 where not [ exists ( select c0 from T1 where [ c0 = 1 ] ) ]", "");
    fault(x, "select c0 from T0 where not [ exists ( select c0 from T1 where [ c0 = - 1 ] ) ]", "1@17");
    fault(x, "insert T0 values ( - - - - 1 , 2 , 3 )", "");
    fault(x, "insert T0 values ( - - - - - 1 , 2 , 3 )", "1@8");
    fault(x, "select c0 from T0 where not not not not c0 not in ( 1 )", "1@12");
    fault(x, "select c0 from T0 where not not not c0 not in ( 1 ) and not not not not c0 = 1", "");
  }

  private static void promise21Names() {
    Sessionstore x = Tests.samples(0, 1);
    fault(x, "select 1 from T2", "2@3");
    fault(x, "select c0 from T2", "2@1");
    fault(x, "select c3 from T0", "2@1");
    fault(x, "select 1 , b c0 from T0", "2@3");
    fault(x, "select c c0 from T0 join T1 on 1 = 1", "2@1");
    fault(x, "select b c2 from T0 join T1 on b c1 = a c2", "");
    fault(x, "select outer c0 from T0", "2@1");
    fault(x, "select 1 from T0 join T1 on c c0 = 1 join T1 on 1 = 1", "2@7");
    fault(x, "select 1 from T0 join T1 on b c0 = 1 join T1 on c c0 = 1", "");
    fault(x, "select 1 from T0 join T1 on exists ( select 1 from T1 where c0 = outer c c0 ) join T1 on 1 = 1", "2@16");
    fault(x, "select 1 from T0 join T1 on exists ( select 1 from T1 where c0 = outer b c0 ) join T1 on 1 = 1", "");
    fault(x, "select 1 from T0 where exists ( select 1 from T1 where c0 = outer b c0 )", "2@14");
    fault(x, "insert T2 values ( 1 )", "2@1");
    fault(x, "insert T0 values ( 1 , c0 , 1 )", "2@6");
    fault(x, "insert T0 values ( 1 , outer c0 , 1 )", "2@6");
    fault(x, "insert T0 select outer c0 , 1 , 1 from T0", "2@3");
    fault(x, "update T3 set c0 = 1", "2@1");
    fault(x, "update T0 set c3 = 1", "2@3");
    fault(x, "update T0 set c0 = c3", "2@5");
    fault(x, "update T0 set c0 = 1 where b c0 = 1", "2@7");
    fault(x, "update T0 set c0 = outer c0", "2@5");
    fault(x, "update T0 set c0 = ( select max ( c0 ) from T1 where c0 = outer c2 )", "");
    fault(x, "update T0 set c0 = ( select max ( c0 ) from T1 where c0 = outer b c0 )", "2@16");
    fault(x, "delete T0 where exists ( select c0 from T1 where c0 = outer c3 )", "2@12");
    fault(x, "delete T2", "2@1");
    fault(x, "drop T2", "2@1");
    fault(x, "index T2 c0", "2@1");
    fault(x, "index T0 c3", "2@2");
  }

  private static void promise21NamesOfCreate() {
    Sessionstore x = Tests.samples(0, 1);
    fault(x, "create T2 ( c0 , c1 , c2 , c3 )", "");
    fault(x, "create T2 ( c1 )", "2@3");
    fault(x, "create T2 ( c0 , c0 )", "2@5");
    fault(x, "create T2 ( c0 , c2 )", "2@5");
    fault(x, "create T2 ( c0 , c1 , c2 , c3 , c0 )", "2@11");
    fault(x, "create T2 ( c0 refs T1 , c1 notnull refs T0 )", "");
    fault(x, "create T2 ( c0 refs T3 )", "2@5");
    fault(x, "create T2 ( c0 notnull refs T2 )", "2@6");
    fault(x, "create T0 ( c0 refs T0 )", "2@5");
    fault(x, "create T2 ( c0 ) check c1 = 1", "2@6");
    fault(x, "create T2 ( c0 ) check b c0 = 1", "2@6");
    fault(x, "create T2 ( c0 ) check outer c0 = 1", "2@6");
    fault(x, "create T0 ( c0 )", "");
    fault(x, "create T0 ( c0 ) check c1 = 1", "2@6");
  }

  private static void promise21Misplaced() {
    Sessionstore x = Tests.samples(0, 1);
    fault(x, "select c0 from T0 where count ( * ) = 1", "3@5");
    fault(x, "select c0 from T0 join T1 on sum ( c0 ) = 1", "3@7");
    fault(x, "select sum ( min ( c0 ) ) from T0", "3@3");
    fault(x, "select sum ( ( select min ( c0 ) from T1 ) ) from T0", "");
    fault(x, "insert T0 values ( count ( * ) , 1 , 1 )", "3@4");
    fault(x, "update T0 set c1 = max ( c1 )", "3@5");
    fault(x, "update T0 set c1 = 1 where max ( c1 ) = 1", "3@7");
    fault(x, "delete T0 where min ( c1 ) = 1", "3@3");
    fault(x, "create T2 ( c0 ) check min ( c0 ) = 1", "3@6");
    fault(x, "select c0 from T0 where c0 in ( select c0 from T1 where c0 in ( select c0 from T0 ) )", "3@16");
    fault(x, "update T0 set c1 = ( select c0 from T1 where exists ( select 1 from T0 ) )", "3@13");
    fault(x, "insert T1 select c0 , 1 , ( select max ( c0 ) from T0 ) from T0", "");
    fault(x, "insert T0 values ( ( select 1 from T0 ) , 1 , 1 )", "3@5");
    fault(x, "create T2 ( c0 ) check exists ( select 1 from T0 )", "3@8");
    fault(x, "select ( select * from T1 ) from T0", "3@2");
    fault(x, "select ( select c0 , c1 from T1 ) from T0", "3@2");
    fault(x, "select c0 from T0 where c0 in ( select c0 , c1 from T1 )", "3@8");
    fault(x, "select c0 from T0 where c0 in ( select * from T1 )", "3@8");
    fault(x, "select c0 from T0 where exists ( select * from T1 )", "");
    fault(x, "select c0 from T0 where exists ( select c0 , c1 from T1 )", "");
    fault(x, "insert T0 values ( 1 , 2 )", "3@2");
    fault(x, "insert T0 values ( 1 , 2 , 3 , 4 )", "3@2");
    fault(x, "insert T0 select c0 from T1", "3@2");
    fault(x, "insert T0 select * from T1", "");
    fault(x, "insert T0 select * from T1 join T0 on 1 = 1", "3@2");
    fault(x, "insert T0 select * from T2", "3@2");
    fault(x, "update T0 set c1 = 1 , c2 = 1 , c1 = 2", "3@11");
    fault(x, "update T0 set c1 = 1 , c1 = 1 , c3 = 2", "3@7");
    fault(x, "update T0 set c3 = 1 , c3 = 2", "2@3");
  }

  private static void promise21Grouped() {
    Sessionstore x = Tests.samples(0, 1);
    fault(x, "select * from T0 group c0", "3@1");
    fault(x, "select * from T0 having 1 = 1", "3@1");
    fault(x, "select * from T0 order count ( * )", "3@1");
    fault(x, "select c0 , count ( * ) from T0", "3@1");
    fault(x, "select count ( * ) , a c1 from T0", "3@6");
    fault(x, "select c0 from T0 having 1 = 1", "3@1");
    fault(x, "select c0 from T0 order sum ( c1 )", "3@1");
    fault(x, "select c0 , c1 from T0 group a c0", "3@3");
    fault(x, "select a c0 from T0 group c0", "");
    fault(x, "select b c0 from T0 join T1 on 1 = 1 group c0", "3@1");
    fault(x, "select b c0 from T0 join T1 on 1 = 1 group c0 , b c0", "");
    fault(x, "select c0 + c1 from T0 group c0 , c1 having c0 > 1 order c1", "");
    fault(x, "select c0 from T0 group c0 having c1 > 1", "3@7");
    fault(x, "select c0 from T0 group c0 order c1", "3@7");
    fault(x, "select c0 from T0 where c1 = 1 group c0", "");
    fault(x, "select sum ( c1 + c2 ) from T0 group c0", "");
    fault(x, "select c3 from T0 group c0", "2@1");
    fault(x, "select 1 from T0 order ( select count ( * ) from T1 ) , c0", "");
  }

  private static void promise21OuterInGrouped() {
    Sessionstore x = Tests.samples(0, 1);
    fault(x, "select ( select max ( c0 ) from T1 where c1 = outer c0 ) from T0 group c0", "");
    fault(x, "select ( select max ( c0 ) from T1 where c1 = outer c1 ) from T0 group c0", "3@12");
    fault(x, "select ( select max ( outer c1 ) from T1 ) from T0 group c0", "3@5");
    fault(x, "select sum ( ( select max ( c0 ) from T1 where c1 = outer c1 ) ) from T0 group c0", "");
    fault(x, "select c0 from T0 where exists ( select 1 from T1 where c1 = outer c1 ) group c0", "");
    fault(x, "select c0 from T0 where exists ( select max ( c0 ) , outer c1 from T1 )", "");
    fault(x, "select c0 from T0 where exists ( select c0 from T1 group c0 , outer c0 )", "3@14");
    fault(x, "select c0 from T0 group outer c0", "3@1");
    fault(x, "select 1 from T0 group outer c0", "2@5");
  }

  private static void promise21Refused() {
    Sessionstore x = new Sessionstore();
    T.fails("session 4", Tests.OUT, x, () -> x.fault(4, 2));
    T.fails("what 2", Tests.ARGUMENT, x, () -> x.fault(0, 2));
    T.fails("what -1", Tests.ARGUMENT, x, () -> x.fault(0, -1));
    x.crash(false);
    T.fails("off", Tests.STATE, x, () -> x.fault(0, 0));
    T.fails("off, what 2", Tests.ARGUMENT, x, () -> x.fault(0, 2));
  }

  private static void promise22Token() {
    Sessionstore x = new Sessionstore();
    x.sample(3, 3, 5, 6);
    T.same("first", 11, x.token(3, 0));
    T.same("number", 105, x.token(3, 4));
    T.same("last", 38, x.token(3, 9));
    T.fails("behind", Tests.OUT, x, () -> x.token(3, 10));
    T.fails("ahead", Tests.OUT, x, () -> x.token(3, -1));
    T.fails("session", Tests.OUT, x, () -> x.token(4, 0));
    x.crash(false);
    T.fails("off, where nothing is typed", Tests.OUT, x, () -> x.token(3, 0));
  }
}
