import java.util.ArrayList;
import java.util.HashMap;
import java.util.HashSet;
import java.util.List;
import java.util.Map;
import java.util.Set;

/**
 * The language of section 2, written down rule by rule as the document does, and Earley's way of reading it: it
 * knows of each TOKEN whether it can stand behind those ahead of it. The digit behind a rule's name is how many
 * of "(", "[", not and - stand around it; DEAD is a TOKEN that never comes.
 */
final class Grammar {
  private final Map<String, List<String[]>> rules = new HashMap<>();
  private final Set<String> empty = new HashSet<>();

  private record Item(String head, String[] body, int dot, int from) {
    String next() {
      return dot < body.length ? body[dot] : null;
    }

    Item moved() {
      return new Item(head, body, dot + 1, from);
    }
  }

  /** What can be read behind so many TOKENS. */
  static final class Chart {
    private final List<List<Item>> sets = new ArrayList<>();
    private boolean isWhole;

    int length() {
      return sets.size() - 1;
    }

    /** Whether what was read is a statement. */
    boolean isWhole() {
      return isWhole;
    }
  }

  Grammar() {
    rule("statement", "query0 | insert T values ( expr0 more0 ) | insert T query0 | update T set put puts where0"
        + " | delete T where0 | create T ( spec specs ) checks | drop T | index T C");
    rule("put", "C = expr0");
    rule("puts", "| , put puts");
    rule("spec", "C notnulls refss");
    rule("notnulls", "| notnull");
    rule("refss", "| refs T");
    rule("specs", "| , spec specs");
    rule("checks", "| check cond0");
    rule("ref", "outers letters C");
    rule("outers", "| outer");
    rule("letters", "| a | b | c");
    rule("groups", "| group ref refs2");
    rule("refs2", "| , ref refs2");
    rule("limits", "| limit N");
    rule("J", "join | left");
    rule("sign", "= | <> | < | <= | > | >=");
    for (int depth = 0; depth <= 4; depth++) {
      deep(depth);
    }
    boolean isMore = true;
    while (isMore) {
      isMore = false;
      for (Map.Entry<String, List<String[]>> rule : rules.entrySet()) {
        for (String[] body : rule.getValue()) {
          boolean isEmpty = true;
          for (String part : body) {
            isEmpty &= empty.contains(part);
          }
          isMore |= isEmpty && empty.add(rule.getKey());
        }
      }
    }
  }

  private void deep(int d) {
    boolean isLast = d == 4;
    String in = "" + (d + 1);
    rule("query" + d, "select what" + d + " from T joins" + d + " where" + d + " groups having" + d + " order" + d
        + " limits");
    rule("what" + d, "* | expr" + d + " more" + d);
    rule("more" + d, "| , expr" + d + " more" + d);
    rule("joins" + d, "| J T on cond" + d + " second" + d);
    rule("second" + d, "| J T on cond" + d + " third" + d);
    rule("third" + d, "| J DEAD");
    rule("where" + d, "| where cond" + d);
    rule("having" + d, "| having cond" + d);
    rule("order" + d, "| order item" + d + " items" + d);
    rule("items" + d, "| , item" + d + " items" + d);
    rule("item" + d, "expr" + d + " | expr" + d + " desc");
    rule("expr" + d, "term" + d + " | expr" + d + " + term" + d + " | expr" + d + " - term" + d);
    rule("term" + d, "factor" + d + " | term" + d + " * factor" + d + " | term" + d + " / factor" + d);
    rule("factor" + d, "N | null | ref | count all" + d + " | sum of" + d + " | min of" + d + " | max of" + d
        + (isLast ? "" : " | - factor" + in + " | ( expr" + in + " ) | ( query" + in + " )"));
    rule("all" + d, isLast ? "DEAD" : "( * ) | ( expr" + in + " )");
    rule("of" + d, isLast ? "DEAD" : "( expr" + in + " )");
    rule("cond" + d, "conj" + d + " | cond" + d + " or conj" + d);
    rule("conj" + d, "neg" + d + " | conj" + d + " and neg" + d);
    rule("neg" + d, "prim" + d + (isLast ? "" : " | not neg" + in));
    rule("prim" + d, "exists some" + d + " | expr" + d + " sign expr" + d + " | expr" + d + " is null | expr" + d
        + " is not null | expr" + d + " in row" + d + " | expr" + d + " not in row" + d
        + (isLast ? "" : " | [ cond" + in + " ]"));
    rule("some" + d, isLast ? "DEAD" : "( query" + in + " )");
    rule("row" + d, isLast ? "DEAD" : "( query" + in + " ) | ( expr" + in + " more" + in + " )");
  }

  private void rule(String head, String bodies) {
    List<String[]> all = new ArrayList<>();
    String rest = bodies.startsWith("|") ? " " + bodies : bodies;
    for (String body : rest.split(" \\| ?", -1)) {
      all.add(body.isBlank() ? new String[0] : body.trim().split(" +"));
    }
    rules.put(head, all);
  }

  Chart start() {
    Chart chart = new Chart();
    List<Item> first = new ArrayList<>();
    for (String[] body : rules.get("statement")) {
      first.add(new Item("statement", body, 0, 0));
    }
    chart.sets.add(first);
    close(chart);
    return chart;
  }

  /** Predicts and completes till nothing is new. */
  private void close(Chart chart) {
    int at = chart.length();
    List<Item> set = chart.sets.get(at);
    Set<Item> known = new HashSet<>(set);
    chart.isWhole = false;
    for (int i = 0; i < set.size(); i++) {
      Item item = set.get(i);
      String next = item.next();
      List<Item> found = new ArrayList<>();
      if (next == null) {
        chart.isWhole |= item.head.equals("statement");
        for (Item waiting : new ArrayList<>(chart.sets.get(item.from))) {
          if (item.head.equals(waiting.next())) {
            found.add(waiting.moved());
          }
        }
      } else if (rules.containsKey(next)) {
        for (String[] body : rules.get(next)) {
          found.add(new Item(next, body, 0, at));
        }
        if (empty.contains(next)) {
          found.add(item.moved());
        }
      }
      for (Item one : found) {
        if (known.add(one)) {
          set.add(one);
        }
      }
    }
  }

  private static boolean isIt(String kind, int token) {
    switch (kind) {
      case "T": return token >= 52 && token <= 55;
      case "C": return token >= 56 && token <= 59;
      case "N": return token >= 100;
      case "DEAD": return false;
      default: return token < 100 && Tests.word(token).equals(kind);
    }
  }

  /** Whether that TOKEN can stand there. */
  boolean canStand(Chart chart, int token) {
    for (Item item : chart.sets.get(chart.length())) {
      String next = item.next();
      if (next != null && !rules.containsKey(next) && isIt(next, token)) {
        return true;
      }
    }
    return false;
  }

  void read(Chart chart, int token) {
    List<Item> set = new ArrayList<>();
    for (Item item : chart.sets.get(chart.length())) {
      String next = item.next();
      if (next != null && !rules.containsKey(next) && isIt(next, token)) {
        set.add(item.moved());
      }
    }
    chart.sets.add(set);
    close(chart);
  }

  /** Takes the last TOKEN back. */
  void unread(Chart chart) {
    chart.sets.remove(chart.length());
    chart.isWhole = false;
    for (Item item : chart.sets.get(chart.length())) {
      chart.isWhole |= item.next() == null && item.head.equals("statement");
    }
  }

  /** The PLACE of what can not stand; NONE if it is a statement. */
  int place(int[] tokens) {
    Chart chart = start();
    for (int i = 0; i < tokens.length; i++) {
      if (!canStand(chart, tokens[i])) {
        return i;
      }
      read(chart, tokens[i]);
    }
    return chart.isWhole() ? -1 : tokens.length;
  }
}
