import java.util.function.Consumer;

/**
 * Checks that need nothing of before: a fresh desk comes ahead of the calls that one has left.
 *
 * In tables each line is a check, but those that begin with --, which tell the sentence that the
 * checks behind them are of. The sign (pilcrow) stands for a byte 10, (inverted question mark)
 * right ahead of the byte whose PLACE is due.
 */
abstract class Sheet {
  static final char LINE = '\u00b6';
  static final char HERE = '\u00bf';
  static Desk d = new Desk();
  private static String worldData = null;
  private static String worldInput = null;
  private static String[] worldModules = {};

  /** DATA, INPUT (null: none of its own) and modules that each fresh desk has from now on. */
  static void world(String data, String input, String... modules) {
    worldData = data;
    worldInput = input;
    worldModules = modules;
    establish();
  }

  private static void establish() {
    d = new Desk();
    if (worldData != null) same("data " + worldData, d.data(worldData) > 0, true);
    if (worldInput != null) same("input " + worldInput, d.input(worldInput) > 0, true);
    String got = worldModules.length == 0 ? "0" : d.mods(worldModules);
    same("modules " + String.join(" || ", worldModules), got.matches("[0-9]+") ? "right" : got, "right");
  }

  /** A desk for texts of so many bytes, and so many calls besides. */
  static Desk ready(int bytes, int calls) {
    if (!d.hasLeft(bytes / 20 + calls + 30)) establish();
    return d;
  }

  static void same(String what, Object got, Object due) {
    Desk.same(what.length() > 200 ? what.substring(0, 200) + " .." : what, got, due);
  }

  static void each(String table, Consumer<String> check) {
    for (String line : table.split("\n")) {
      if (!line.startsWith("--") && !line.isEmpty()) check.accept(line.replace(LINE, '\n'));
    }
  }

  static String bare(String marked) {
    return marked.replace("" + HERE, "");
  }

  /** JSON texts: "text => weight print", or one with the place at which it is WRONG. */
  static void jsons(String table) {
    each(table, line -> {
      int at = line.indexOf(HERE);
      int due = line.lastIndexOf(" => ");
      int gap = line.indexOf(' ', due + 4);
      if (at >= 0) wrongJson(bare(line), at);
      else json(line.substring(0, due), Integer.parseInt(line.substring(due + 4, gap)), line.substring(gap + 1));
    });
  }

  static void wrongJson(String s, int place) {
    ready(3 * s.length(), 0);
    same("data of " + s, d.data(s), -1 - place);
    same("input of " + s, d.input(s), -1 - place);
    same("patch of " + s, d.patch(s), -1 - place);
  }

  /** Reads a JSON text as input, and prints it by a query. */
  static void json(String s, int weight, String print) {
    ready(s.length(), print.length());
    same("input of " + s, d.input(s), weight);
    same("print of " + s, d.ask("x := input"), "[" + print + "]");
    d.input("");
  }

  /** Module texts, right or with the place at which they are WRONG. */
  static void modules(String table) {
    each(table, line -> texts(line, true));
  }

  /** Rules behind "package p", right or with the place at which they are WRONG. */
  static void rules(String table) {
    each(table, line -> texts("package p\n" + line, true));
  }

  /** Query texts, right (but for their names) or with the place at which they are WRONG. */
  static void queries(String table) {
    each(table, line -> texts(line, false));
  }

  private static void texts(String marked, boolean module) {
    int at = marked.indexOf(HERE);
    String s = bare(marked);
    ready(s.length(), 0);
    if (module) d.h().drop();
    int got = module ? d.module(s) : d.prepare(s);
    boolean right = module ? got >= 0 : got >= 0 || got <= -7000;
    if (at >= 0) same((module ? "module of " : "prepare of ") + s, got, -1 - at);
    else same((module ? "module of " : "prepare of ") + s, right ? "right" : got, "right");
    if (!module) d.h().release(got);
  }

  static void module(String s, int due) {
    ready(s.length(), 0);
    d.h().drop();
    same("module of " + s, d.module(s), due);
  }

  static void wrongModule(String s, int place) {
    module(s, -1 - place);
  }

  /** A rule's text behind "package p" and a byte 10; places are told from the rule on. */
  static void rule(String s) {
    module("package p\n" + s, 1);
  }

  static void wrongRule(String s, int place) {
    wrongModule("package p\n" + s, 10 + place);
  }

  static void wrongQuery(String s, int place) {
    ready(s.length(), 0);
    same("prepare of " + s, d.prepare(s), -1 - place);
  }

  static void query(String s) {
    ready(s.length(), 0);
    int n = d.prepare(s);
    same("prepare of " + s, n >= 0 ? 0 : n, 0);
    d.h().release(n);
  }

  /**
   * Bundles: the kind of the fault and the modules with its place, || between them ("package p" is
   * put ahead of one alone that has no package); 0 and the modules that have no fault.
   */
  static void faults(String table) {
    each(table, line -> {
      int kind = line.charAt(0) - '0';
      String all = line.substring(2);
      String[] texts = (all.startsWith("package ") ? all : "package p\n" + all).split(" \\|\\| ");
      String due = "none";
      for (int m = 0; m < texts.length; m++) {
        int at = texts[m].indexOf(HERE);
        if (at >= 0) due = kind + ":" + m + "@" + at;
        texts[m] = bare(texts[m]);
      }
      ready(all.length() + 60 * texts.length, 0);
      String got = d.mods(texts);
      same(String.join(" || ", texts), got.matches("[0-9]+") ? "none" : got, due);
    });
  }

  /** How many rules the bundle of modules has, or its fault as kind:module@place. */
  static void fault(String due, String... texts) {
    int n = 0;
    for (String s : texts) n += s.length() + 40;
    ready(n, 0);
    same(String.join(" || ", texts), d.mods(texts), due);
  }

  /** Rules in a package p of one module; the place is told from the rules on. */
  static void rules(String text, int kind, int place) {
    fault(kind + ":0@" + (10 + place), "package p\n" + text);
  }

  static void right(String text, int n) {
    fault("" + n, "package p\n" + text);
  }

  /** Queries in the world that there is: "query => results", "query => results @ fuel", or "kind query" with a place. */
  static void asks(String table) {
    each(table, line -> {
      int at = line.indexOf(HERE);
      if (at >= 0) {
        asks(bare(line.substring(2)), line.charAt(0) + "@" + (at - 2));
        return;
      }
      int due = line.lastIndexOf(" =>");
      String rest = line.substring(due + 3);
      int fuel = rest.lastIndexOf(" @ ");
      asks(line.substring(0, due), (fuel < 0 ? rest : rest.substring(0, fuel)).strip());
      if (fuel >= 0) same("fuel of " + line, d.h().about(2), sum(rest.substring(fuel + 3)));
    });
  }

  /** What a sum of numbers and products of two is. */
  static int sum(String text) {
    int all = 0;
    for (String part : text.strip().split(" *\\+ *")) {
      int sign = part.indexOf('*');
      all += sign < 0 ? Integer.parseInt(part) : Integer.parseInt(part.substring(0, sign)) * Integer.parseInt(part.substring(sign + 1));
    }
    return all;
  }

  /** The results of a query, or kind@place of its fault. */
  static void asks(String q, String due) {
    ready(q.length(), due.length());
    same(q, d.ask(q), due);
  }

  /** Expressions: "expression => value", as of is. */
  static void values(String table) {
    each(table, line -> {
      int due = line.lastIndexOf(" => ");
      is(line.substring(0, due), line.substring(due + 4));
    });
  }

  /** What an expression is; due "none": no value, NOTED as a built-in's in a STRICT RUN. */
  static void is(String e, String due) {
    String q = "x := " + e;
    ready(2 * q.length(), due.length() + 20);
    if (due.equals("none")) {
      same(q, d.ask(q), "");
      same("strict " + q, d.ask(q, true), "-103");
    } else if (due.equals("nothing")) {
      same("strict " + q, d.ask(q, true), "");
    } else if (due.equals("great")) {
      same(q, d.ask(q), "-102");
    } else {
      same(q, d.ask(q), "[" + due + "]");
    }
  }
}
