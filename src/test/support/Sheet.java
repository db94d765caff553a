/** Checks that need nothing of before: a fresh desk comes ahead of the calls that one has left. */
abstract class Sheet {
  static Desk d = new Desk();

  /** A desk for texts of so many bytes, and so many calls besides. */
  static Desk ready(int bytes, int calls) {
    if (!d.hasLeft(bytes / 20 + calls + 20)) d = new Desk();
    return d;
  }

  static void same(String what, Object got, Object due) {
    Desk.same(what.length() > 200 ? what.substring(0, 200) + " .." : what, got, due);
  }

  static void wrongJson(String s, int place) {
    ready(3 * s.length(), 0);
    same("data of " + s, d.data(s), -1 - place);
    same("input of " + s, d.input(s), -1 - place);
    same("patch of " + s, d.patch(s), -1 - place);
  }

  /** Reads a JSON text as input, and prints it by a query. */
  static void json(String s, int weight, String print) {
    ready(s.length(), print.length());
    same("input of " + s, d.input(s), weight);
    same("print of " + s, d.ask("x := input"), "[" + print + "]");
    d.input("");
  }

  static void module(String s, int due) {
    ready(s.length(), 0);
    d.h().drop();
    same("module of " + s, d.module(s), due);
  }

  static void wrongModule(String s, int place) {
    module(s, -1 - place);
  }

  /** A rule's text behind "package p" and a byte 10; places are told from the rule on. */
  static void rule(String s) {
    module("package p\n" + s, 1);
  }

  static void wrongRule(String s, int place) {
    wrongModule("package p\n" + s, 10 + place);
  }

  static void wrongQuery(String s, int place) {
    ready(s.length(), 0);
    same("prepare of " + s, d.prepare(s), -1 - place);
  }

  static void query(String s) {
    ready(s.length(), 0);
    int n = d.prepare(s);
    same("prepare of " + s, n >= 0 ? 0 : n, 0);
    d.h().release(n);
  }

  /** How many rules the bundle of modules has, or its fault as kind:module@place. */
  static void fault(String due, String... texts) {
    int n = 0;
    for (String s : texts) n += s.length() + 40;
    ready(n, 0);
    same(String.join(" || ", texts), d.mods(texts), due);
  }

  /** Rules in a package p of one module; the place is told from the rules on. */
  static void rules(String text, int kind, int place) {
    fault(kind + ":0@" + (10 + place), "package p\n" + text);
  }

  static void right(String text, int n) {
    fault("" + n, "package p\n" + text);
  }

  /** The results of a query, or kind@place of its fault. */
  static void asks(String q, String due) {
    ready(q.length(), due.length());
    same(q, d.ask(q), due);
  }

  /** What an expression is; due "none": no value, NOTED as a built-in's in a STRICT RUN. */
  static void is(String e, String due) {
    String q = "x := " + e;
    ready(2 * q.length(), due.length() + 20);
    if (due.equals("none")) {
      same(q, d.ask(q), "");
      same("strict " + q, d.ask(q, true), "-103");
    } else if (due.equals("nothing")) {
      same("strict " + q, d.ask(q, true), "");
    } else if (due.equals("great")) {
      same(q, d.ask(q), "-102");
    } else {
      same(q, d.ask(q), "[" + due + "]");
    }
  }
}
