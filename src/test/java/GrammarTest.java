import java.util.Random;

/** The sentences of section 2 on the language: what can stand where, how deep, and the PLACE of the ERROR 1. */
public final class GrammarTest {
  private static final Tests T = new Tests("GrammarTest");
  private static final Grammar GRAMMAR = new Grammar();

  /** Statements that go through all of the language. */
  private static final String[] SEEDS = {
    "select * from T0",
    "select c0 , b c1 , outer c c3 , a c2 from T3 join T1 on b c0 = 5 left T2 on c c1 is null where c0 < 99 group c0 , b"
      + " c1 , outer c2 having count ( * ) >= 1 order sum ( c0 ) desc , c1 limit 3",
    "select - ( c0 + 1 ) * 2 / - 3 - null from T1 order c0 , c1 desc , c2",
    "select count ( c0 - 1 ) , min ( c1 ) , max ( c2 ) , sum ( 1 ) from T2 having sum ( c1 ) <> 0",
    "select c0 from T0 where not [ c0 = 1 or c1 <= 2 and c2 > 3 ] or c1 is not null and not not c0 in ( 1 , 2 , c1 )",
    "select c0 from T0 where exists ( select * from T1 where c1 not in ( select c0 from T2 limit 0 ) ) or 1 = 2",
    "select ( select max ( c0 ) from T1 left T2 on 1 = 1 group c0 ) , ( ( ( ( 1 ) ) ) ) from T0 limit 99",
    "select - - - - 1 , 2 from T0 where [ [ [ [ 1 = 1 ] ] ] ] and not not not not 1 = 1",
    "select 1 from T0 where not [ - ( 1 ) = 1 ] and not [ ( - 1 ) in ( 1 ) ] and [ not exists ( select 1 from T0 ) ]",
    "select 1 from T0 where [ [ [ [ 1 = 1 and c0 in ( 1 ) ] ] ] ]",
    "select ( ( ( ( count ( c0 ) ) ) ) ) from T0",
    "select ( ( ( count ( * ) ) ) ) , 5 from T0 where [ [ [ [ exists ( select 1 from T0 ) ] ] ] ]",
    "select 1 from T0 join T0 on 1 = 1 left T0 on 1 = 1 join T0 on 1 = 1",
    "select 1 from T0 where c0 in ( select 1 from T0 left T0 on 1 = 1 join T0 on 2 = 2 left T0 )",
    "insert T1 values ( 1 , - c0 , ( select 1 from T0 ) )",
    "insert T0 select * from T1 where c0 = 1 order c0 limit 5",
    "update T2 set c1 = c1 + 1 , c2 = ( select c0 from T0 where c0 = outer a c1 ) where c0 = 1 or c1 = 2",
    "update T2 set c3 = null",
    "delete T3 where c0 not in ( 1 ) and c1 = 2",
    "delete T3",
    "create T0 ( c0 , c1 notnull , c2 refs T1 , c3 notnull refs T2 ) check c1 < 5 and not c2 is null",
    "create T1 ( c0 )",
    "drop T2",
    "index T3 c1"
  };

  public static void main(String[] args) {
    rules();
    fromTheLeft();
    whatCanStand();
    mixed();
    tooEarlyAndEmpty();
    threeTables();
    fourDeep();
    whatIsNotDeep();
    sixtyTokens();
    allTokens();
    T.end();
  }

  private static int[] tokens(String text) {
    String[] words = text.trim().split(" +");
    int[] all = new int[words.length];
    for (int i = 0; i < all.length; i++) {
      all[i] = Tests.token(words[i]);
    }
    return all;
  }

  private static String text(int[] tokens) {
    StringBuilder all = new StringBuilder();
    for (int token : tokens) {
      all.append(all.length() > 0 ? " " : "").append(Tests.word(token));
    }
    return all.toString();
  }

  private static void type(Sessionstore x, int[] tokens, int many) {
    for (int i = 0; i < many; i += 5) {
      int[] five = {-1, -1, -1, -1, -1};
      for (int k = 0; k < 5 && i + k < many; k++) {
        five[k] = tokens[i + k];
      }
      x.say(0, five[0], five[1], five[2], five[3], five[4]);
    }
  }

  private static void place(String what, Sessionstore x, int want) {
    boolean isSyntax = x.fault(0, 0) == 1;
    T.same(what, want, isSyntax ? x.fault(0, 1) : -1);
  }

  /** The rules that Grammar has, as the document tells them. */
  private static void rules() {
    T.says("statement: query | insert T values \"(\" expr {, expr} \")\" | insert T query | update T set C = expr {, C = expr}"
        + " [where cond] | delete T [where cond] | create T \"(\" spec {, spec} \")\" [check cond] | drop T | index T C");
    T.says("spec: C [notnull] [refs T]");
    T.says("query: select what from T {(join | left) T on cond} [where cond] [group ref {, ref}] [having cond] [order item"
        + " {, item}] [limit N]; at most three T in all");
    T.says("what: * | expr {, expr} item: expr [desc]");
    T.says("expr: term {(+ | -) term}, from the left; term: factor {(* | /) factor}, from the left");
    T.says("factor: N | null | - factor | \"(\" expr \")\" | \"(\" query \")\" | ref | count \"(\" * \")\" | (count | sum | min"
        + " | max) \"(\" expr \")\"");
    T.says("ref: [outer] [a | b | c] C");
    T.says("cond: conj {or conj}; conj: neg {and neg}; neg: not neg | prim");
    T.says("prim: \"[\" cond \"]\" | exists \"(\" query \")\" | expr (= | <> | < | <= | > | >=) expr | expr is [not] null |"
        + " expr [not] in \"(\" query \")\" | expr [not] in \"(\" expr {, expr} \")\"");
    for (String seed : SEEDS) {
      int[] all = tokens(seed);
      Sessionstore x = new Sessionstore();
      type(x, all, all.length);
      place(seed, x, GRAMMAR.place(all));
    }
  }

  /** From the left, and how the signs bind. */
  private static void fromTheLeft() {
    T.says("expr: term {(+ | -) term}, from the left; term: factor {(* | /) factor}, from the left");
    Sessionstore x = new Sessionstore();
    Tests.must(x, 0, "create T0 ( c0 )");
    Tests.must(x, 0, "insert T0 values ( 1 )");
    T.same("from the left", "3,-7,2,8,3", Tests.ask(x, 0, "select 9 - 4 - 2 , - 5 - 2 , 20 / 5 / 2 , 20 / 5 * 2 , 7 / 2 * 1 from T0"));
    T.same("* ahead of +", "14,10,20,2", Tests.ask(x, 0, "select 2 + 3 * 4 , 2 * 3 + 4 , ( 2 + 3 ) * 4 , 4 - 4 / 2 from T0"));
    T.says("cond: conj {or conj}; conj: neg {and neg}; neg: not neg | prim");
    T.same("and ahead of or", 1, Tests.run(x, 0, "select 1 from T0 where 1 = 1 or 1 = 1 and 1 = 2"));
    T.same("and ahead of or", 1, Tests.run(x, 0, "select 1 from T0 where 1 = 2 and 1 = 2 or 1 = 1"));
    T.same("brackets first", 0, Tests.run(x, 0, "select 1 from T0 where [ 1 = 1 or 1 = 1 ] and 1 = 2"));
    T.same("not ahead of and", 0, Tests.run(x, 0, "select 1 from T0 where not 1 = 2 and 1 = 2"));
    T.same("not of brackets", 1, Tests.run(x, 0, "select 1 from T0 where not [ 1 = 2 and 1 = 2 ]"));
  }

  /** Behind each beginning of each statement each TOKEN that there is. */
  private static void whatCanStand() {
    T.says("ERROR 1 SYNTAX: a statement does not go on so, or something follows it; its PLACE is the number of the first"
        + " TOKEN that can not stand there (with all ahead of it; as the language is read from the left), or how many"
        + " TOKENS there are, if it ends too early (also if it is empty).");
    for (String seed : SEEDS) {
      int[] all = tokens(seed);
      Grammar.Chart chart = GRAMMAR.start();
      for (int i = 0; i <= all.length && chart != null; i++) {
        Sessionstore x = new Sessionstore();
        type(x, all, i);
        place("the beginning of " + i + " of " + seed, x, chart.isWhole() ? -1 : i);
        for (int token = 0; token <= 60; token++) {
          int one = token == 60 ? 100 + i : token;
          int want = i;
          if (GRAMMAR.canStand(chart, one)) {
            GRAMMAR.read(chart, one);
            want = chart.isWhole() ? -1 : i + 1;
            GRAMMAR.unread(chart);
          }
          x.say(0, one, -1, -1, -1, -1);
          place(Tests.word(one) + " at " + i + " of " + seed, x, want);
          x.wipe(0, 1);
        }
        if (i < all.length && GRAMMAR.canStand(chart, all[i])) {
          GRAMMAR.read(chart, all[i]);
        } else {
          chart = null;
        }
      }
    }
  }

  /** Statements with some TOKENS changed, left out, put in, or taken from another one. */
  private static void mixed() {
    Random random = new Random(5);
    for (int n = 0; n < 3000; n++) {
      int[] one = tokens(SEEDS[random.nextInt(SEEDS.length)]);
      int[] other = tokens(SEEDS[random.nextInt(SEEDS.length)]);
      for (int k = random.nextInt(3); k >= 0; k--) {
        one = changed(random, one, other);
      }
      Sessionstore x = new Sessionstore();
      type(x, one, one.length);
      place(text(one), x, GRAMMAR.place(one));
    }
  }

  private static int[] changed(Random random, int[] one, int[] other) {
    int at = random.nextInt(one.length + 1);
    int out = Math.min(one.length - at, random.nextInt(3));
    int from = random.nextInt(other.length);
    int in = Math.min(other.length - from, random.nextInt(random.nextInt(4) == 0 ? 12 : 3));
    in = Math.min(in, 60 - one.length + out);
    int[] all = new int[one.length - out + in];
    System.arraycopy(one, 0, all, 0, at);
    System.arraycopy(other, from, all, at, in);
    System.arraycopy(one, at + out, all, at + in, one.length - at - out);
    return all;
  }

  private static void fault(String text, String want) {
    T.same(text, want, Tests.fault(Tests.samples(0, 1), 0, text));
  }

  private static void tooEarlyAndEmpty() {
    T.says("or how many TOKENS there are, if it ends too early (also if it is empty)");
    fault("", "1@0");
    fault("select", "1@1");
    fault("select c0 from T0 where c0 = 1 and", "1@9");
    fault("insert T0 values ( 1 , 2 , 3", "1@9");
    Sessionstore x = new Sessionstore();
    T.same("empty, run", -11, x.run(0));
    T.same("its place", 0, x.result(0, 4));
    T.same("empty, tried", -11, x.tried(0));
    T.says("or something follows it;");
    fault("select c0 from T0 c0", "1@4");
    fault("delete T0 delete", "1@2");
    fault("drop T1 T1", "1@2");
    fault("insert T0 values ( 1 , 2 , 3 ) 4", "1@10");
  }

  private static void threeTables() {
    T.says("at most three T in all (a fourth T is the TOKEN that can not stand)");
    String three = "select 1 from T0 join T1 on 1 = 1 left T0 on 1 = 1";
    fault(three, "");
    fault(three + " join", "1@17");
    fault(three + " left T1 on 1 = 1", "1@17");
    fault(three + " left 5", "1@17");
    fault("select 1 from T0 where exists ( " + three + " )", "");
    fault("select 1 from T0 where exists ( " + three + " join T0 on 1 = 1 )", "1@24");
    fault(three + " where exists ( " + three + " )", "");
  }

  private static void fourDeep() {
    T.says("At most four of \"(\", \"[\", not and - (ahead of a factor) may stand inside one another in expr and cond,"
        + " also with those of a query around it; a fifth one is the TOKEN that can not stand.");
    fault("select ( ( ( ( c0 ) ) ) ) from T0", "");
    fault("select ( ( ( ( ( c0 ) ) ) ) ) from T0", "1@5");
    fault("select ( ( ( ( - c0 ) ) ) ) from T0", "1@5");
    fault("select - - - - c0 from T0", "");
    fault("select - - - - - c0 from T0", "1@5");
    fault("select - - - - ( c0 ) from T0", "1@5");
    fault("select - - - - sum ( c0 ) from T0", "1@6");
    fault("select - - - sum ( c0 ) from T0", "");
    fault("select - - - sum ( - c0 ) from T0", "1@6");
    fault("select 1 from T0 where [ [ [ [ 1 = 1 ] ] ] ]", "");
    fault("select 1 from T0 where [ [ [ [ [ 1 = 1 ] ] ] ] ]", "1@9");
    fault("select 1 from T0 where [ [ [ [ not 1 = 1 ] ] ] ]", "1@9");
    fault("select 1 from T0 where not not not not 1 = 1", "");
    fault("select 1 from T0 where not not not not not 1 = 1", "1@9");
    fault("select 1 from T0 where not not not not [ 1 = 1 ]", "1@9");
    fault("select 1 from T0 where not not not not 1 = ( 1 )", "1@11");
    fault("select 1 from T0 where not not not not 1 in ( 1 )", "1@11");
    fault("select 1 from T0 where not not not not 1 not in ( 1 )", "1@12");
    fault("select 1 from T0 where not not not not exists ( select 1 from T1 )", "1@10");
    fault("select 1 from T0 where not not not exists ( select - 1 from T1 )", "1@11");
    fault("select 1 from T0 where not not not exists ( select 1 from T1 where [ 1 = 1 ] )", "1@15");
    fault("select 1 from T0 where not not exists ( select 1 from T1 where [ 1 = 1 ] )", "");
    fault("select 1 from T0 where not not not exists ( select 1 from T1 group c0 order - 1 )", "1@17");
    fault("select 1 from T0 join T1 on not not not not - 1 = 1", "1@11");
    fault("select ( select - - - 1 from T1 ) from T0", "");
    fault("select ( select - - - - 1 from T1 ) from T0", "1@6");
    fault("select - - ( select - 1 from T1 ) from T0", "");
    fault("select - - ( select - ( 1 ) from T1 ) from T0", "1@6");
    fault("select 1 from T0 where 1 in ( select - - - 1 from T1 )", "");
    fault("select 1 from T0 where 1 in ( select - - - - 1 from T1 )", "1@12");
    fault("select 1 from T0 where not not 1 not in ( select 1 from T1 where not 1 = 1 )", "");
    fault("select 1 from T0 where not not 1 not in ( select 1 from T1 where not not 1 = 1 )", "1@17");
    fault("select 1 from T0 where 1 in ( 1 , - - - 1 )", "");
    fault("select 1 from T0 where 1 in ( 1 , - - - - 1 )", "1@13");
    fault("select 1 from T0 where [ [ [ 1 in ( - 1 ) ] ] ]", "1@11");
    fault("select 1 from T0 where exists ( select - - - 1 from T1 )", "");
    fault("select 1 from T0 where exists ( select - - - - 1 from T1 )", "1@11");
    fault("select count ( - - - c0 ) from T0", "");
    fault("select count ( - - - - c0 ) from T0", "1@6");
    fault("select ( ( select ( sum ( c0 ) ) from T1 ) ) from T0", "");
    fault("select ( ( select ( sum ( - c0 ) ) from T1 ) ) from T0", "1@7");
    fault("insert T0 select - - - - c0 , 1 , 1 from T0", "");
    fault("insert T0 select - - - - - c0 , 1 , 1 from T0", "1@7");
    fault("insert T0 select 1 , 1 , 1 from T0 where not not not not 1 = 1", "");
    fault("insert T0 select 1 , 1 , 1 from T0 where not not not not not 1 = 1", "1@15");
    fault("insert T0 values ( ( ( ( ( 1 ) ) ) ) , 1 , 1 )", "");
    fault("insert T0 values ( ( ( ( ( ( 1 ) ) ) ) ) , 1 , 1 )", "1@8");
    fault("update T0 set c1 = - - - - 1 where not not not not 1 = 1", "");
    fault("update T0 set c1 = - - - - - 1", "1@9");
    fault("delete T0 where - - - - - 1 = 1", "1@7");
    fault("create T2 ( c0 ) check [ [ [ [ c0 = 1 ] ] ] ]", "");
    fault("create T2 ( c0 ) check [ [ [ [ c0 = - 1 ] ] ] ]", "1@12");
  }

  private static void whatIsNotDeep() {
    T.says("(So \"(\" of an expr, a query, an aggregate, exists and in; not \"(\" of values and create, nor the not of"
        + " \"is not\" and \"not in\".)");
    fault("select 1 from T0 where [ [ [ [ 1 is not null ] ] ] ]", "");
    fault("select 1 from T0 where [ [ [ 1 not in ( 1 ) ] ] ]", "");
    fault("select 1 from T0 where [ [ [ [ 1 not in ( 1 ) ] ] ] ]", "1@12");
    fault("insert T0 values ( - - - - 1 , 1 , 1 )", "");
    fault("create T2 ( c0 ) check - - - - c0 = 1", "");
    T.says("(A \"(\" or \"[\" is inside another one until that is closed; what follows not or - up to the end of that neg"
        + " or factor is inside it.)");
    fault("select ( ( ( ( 1 ) ) ) ) + ( ( ( ( 1 ) ) ) ) , ( ( ( ( 1 ) ) ) ) from T0", "");
    fault("select - - - - 1 * - - - - 1 - - - - - 1 from T0", "");
    fault("select - - - ( 1 + - 1 ) from T0", "1@7");
    fault("select - - - ( 1 ) + - - - - 1 from T0", "");
    fault("select 1 from T0 where not not not not 1 = 1 and not not not not 1 = 1 or [ [ [ [ 1 = 1 ] ] ] ]", "");
    fault("select 1 from T0 where not not not not 1 = 1 or - - - - 1 = - - - - 1", "");
    fault("select 1 from T0 where [ [ [ [ 1 = 1 ] and not not 1 = 1 ] ] ]", "1@15");
    fault("select 1 from T0 where [ [ [ [ 1 = 1 ] and not 1 = 1 ] ] ]", "");
    fault("select ( ( ( ( 1 ) ) ) ) - 1 from T0", "");
    fault("select ( ( ( ( 1 - 1 ) ) ) ) from T0", "");
  }

  private static void sixtyTokens() {
    T.says("A session's TYPED is a row of at most 60 TOKENS.");
    Sessionstore x = Tests.samples(0, 1);
    StringBuilder sum = new StringBuilder("select c0");
    for (int i = 0; i < 28; i++) {
      sum.append(" + 1");
    }
    Tests.type(x, 0, sum + " from T0");
    T.same("sixty", 60, x.ofSession(0, 6));
    T.same("the last one", 52, x.token(0, 59));
    T.same("no error", 0, x.fault(0, 0));
    T.fails("the token 60", Tests.OUT, x, () -> x.token(0, 60));
    T.fails("one more", Tests.STATE, x, () -> x.say(0, -1, -1, 33, -1, -1));
    T.same("the text stays", sum + " from T0", x.typed(0));
    T.same("none more", 60, x.say(0, -1, -1, -1, -1, -1));
    T.same("another session's", 5, x.say(1, 0, 33, 1, 52, 2));
    T.same("run", 0, x.run(0));
    T.same("empty then", 0, x.ofSession(0, 6));
    for (int i = 0; i < 12; i++) {
      x.say(0, 37, 37, 37, 37, 37);
    }
    T.same("sixty that are no statement", "1@0", x.fault(0, 0) + "@" + x.fault(0, 1));
    T.same("fifty-nine", 59, x.wipe(0, 1));
    T.fails("two more", Tests.STATE, x, () -> x.say(0, 37, -1, -1, -1, 37));
    T.same("the sixtieth", 60, x.say(0, -1, -1, -1, -1, 37));
  }

  private static void allTokens() {
    T.says("TOKENS, by numbers (their words between blanks make the TEXT):");
    String words = "0 select, 1 from, 2 where, 3 group, 4 having, 5 order, 6 desc, 7 limit, 8 join, 9 left, 10 on,"
        + " 11 insert, 12 values, 13 update, 14 set, 15 delete, 16 create, 17 drop, 18 index, 19 check, 20 refs,"
        + " 21 notnull, 22 and, 23 or, 24 not, 25 is, 26 null, 27 in, 28 exists, 29 count, 30 sum, 31 min, 32 max,"
        + " 33 *, 34 +, 35 -, 36 /, 37 (, 38 ), 39 [, 40 ],";
    T.says(words);
    for (String one : words.split(", ?")) {
      String[] parts = one.split(" ");
      Sessionstore x = new Sessionstore();
      x.say(3, Integer.parseInt(parts[0]), 100, -1, -1, -1);
      T.same(one, parts[1] + " 0", x.typed(3));
    }
    T.says("41 the comma, 42 =, 43 <>, 44 <, 45 <=, 46 >, 47 >=, 48 outer, 49 a, 50 b, 51 c, 52 to 55 T0 to T3, 56 to 59"
        + " c0 to c3, 100 to 199 the NUMBERS 0 to 99 (as digits).");
    Sessionstore x = new Sessionstore();
    x.say(0, 41, 42, 43, 44, 45);
    x.say(0, 46, 47, 48, 49, 50);
    x.say(0, 51, 52, 53, 54, 55);
    x.say(0, 56, 57, 58, 59, 100);
    x.say(0, 101, 109, 110, 198, 199);
    T.same("from 41", ", = <> < <= > >= outer a b c T0 T1 T2 T3 c0 c1 c2 c3 0 1 9 10 98 99", x.typed(0));
    for (int i = 0; i < 5; i++) {
      int place = i;
      int[] last = {59, 100, 199, 0, -1};
      int[] none = {60, 99, 200, -2, Integer.MIN_VALUE};
      for (int k = 0; k < 5; k++) {
        int[] all = {-1, -1, -1, -1, -1};
        all[place] = none[k];
        T.fails(none[k] + " at " + i, Tests.ARGUMENT, x, () -> x.say(1, all[0], all[1], all[2], all[3], all[4]));
        int[] right = {-1, -1, -1, -1, -1};
        right[place] = last[k];
        Sessionstore y = new Sessionstore();
        T.same(last[k] + " at " + i, k < 4 ? 1 : 0, y.say(1, right[0], right[1], right[2], right[3], right[4]));
      }
    }
  }
}
