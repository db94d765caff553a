// Promises 6 to 8, 12, 13, 21, 22: the faults of bundles and queries, rules and orders.
public final class PolicyHouseFaults extends Sheet {
  private static void clashes() {
    fault("1:0@24", "package p import data.a import input.b.a");
    fault("1:0@10", "package p import data.a.x as y y := 1");
    fault("1:0@10", "package p import data.a.input");
    fault("1:1@10", "package p x := 1", "package p import data.a.x");
    fault("2", "package p x := 1", "package q import data.a.x y := 2");
    rules("input := 1", 1, 0);
    rules("b := 1\ndata := 1", 1, 7);
    rules("a := 1\na contains 1", 1, 7);
    rules("a := 1\na(x) := 1", 1, 7);
    rules("a(x) := 1\na(x, y) := 1", 1, 10);
    rules("a[1] := 1\na contains 1", 1, 10);
    rules("default a := 1\ndefault a := 1", 1, 15);
    rules("default a := 1\na := 2\ndefault a := 1", 1, 22);
    rules("default a := 1\na contains 1", 1, 0);
    rules("a contains 1\ndefault a := 1", 1, 13);
    rules("default a := 1\na contains 1\na := 1", 1, 0);
    fault("1:0@10", "package p a := 1", "package p.a");
    fault("1:1@10", "package p.a.b", "package p a := 1");
    fault("1:1@10", "package p a := 1", "package p a contains 1");
    fault("1", "package p a := 1", "package p a := 1");
  }

  private static void names() {
    rules("a := b", 2, 5);
    rules("a := _", 2, 5);
    rules("a := f(1)", 2, 5);
    rules("a := count(1, 2)", 2, 5);
    rules("f(x) := 1\na := f(1, 2)", 2, 15);
    rules("f(x) := 1\na := data.p.f()", 2, 15);
    rules("a := json.nothing(1)", 2, 5);
    rules("a if { x := 1; y == x }", 2, 15);
    rules("a if { y := [x | x := 1]; x == 1 }", 2, 26);
    rules("a := x if { x := 1 } else := x", 2, 29);
    rules("a if { _ == 1 }", 2, 7);
    rules("a if { x := [_] }", 2, 13);
    rules("a if { (_) = 1 }", 2, 8);
    rules("a if { {_} = {1} }", 2, 8);
    rules("a if { {_: 1} = {1: 1} }", 2, 8);
    rules("a if { input[[_]] == 1 }", 2, 14);
    rules("a if { _.x == 1 }", 2, 7);
    right("a if { [_, {1: _}] = input.x }", 1);
    right("a if { input.x = [_] }", 1);
    right("a if { input[_][_] == 1 }", 1);
    right("a if { some _, _ in input }", 1);
    right("f(_, _) := 1", 1);
    right("count(x) := x\na := count(1)", 2);
    right("count := 5\na := count([1])", 2);
    fault("2", "package p import data.q a := q.f(1)", "package q f(x) := x");
    fault("2", "package p import data.q.f a := f(1)", "package q f(x) := x");
    fault("2", "package p a := data.q.f(1)", "package q f(x) := x");
    fault("2:0@28", "package p import input.q a:=q.f(1)", "package q f(x) := x");
    fault("2:1@20", "package p a := 1", "package q a := 1 b:=c d := e");
  }

  private static void declared() {
    rules("a if { x := 1; x := 2 }", 3, 15);
    rules("a if { [x, x] := [1, 2] }", 3, 11);
    rules("f(x, x) := 1", 3, 5);
    rules("f(x) if { x := 1 }", 3, 10);
    rules("f(x) if { [x | x := 1] == [] }", 3, 15);
    rules("a if { y := [x | x := 1]; x := 2 }", 3, 17);
    rules("a if { x := 2; y := [x | some x in [1]] }", 3, 30);
    rules("a if { some x; some x }", 3, 20);
    rules("a if { every x, x in [1] { true } }", 3, 16);
    rules("a if { every x in [1] { x := 1 } }", 3, 24);
    rules("a if { x := 1; every x in [1] { true } }", 3, 21);
    rules("a if { input := 1 }", 3, 7);
    rules("a if { some data in [] }", 3, 12);
    rules("a if { a := 1 }", 3, 7);
    rules("a if { b := 1 }\nb := 2", 3, 7);
    fault("3:0@31", "package p import data.z a if { z := 1 }");
    right("a if { x := 1 } else if { x := 2 }", 1);
    right("a if { y := [x | x := 1]; z := [x | x := 2] }", 1);
    String many = "a if { ";
    for (int i = 0; i < 30; i++) many += "v" + (char) ('a' + i % 26) + (char) ('a' + i / 26) + ":=1;";
    right(many + "true }", 1);
    rules(many + "w:=1; true }", 3, 7 + 30 * 7);
    rules("f(w)" + many.substring(1) + "true }", 3, 7 + 3 + 29 * 7);
    asks(many.substring(7) + "true", "[" + "1,".repeat(29) + "1]");
    asks(many.substring(7) + "w:=1", "3@210");
  }

  private static void patterns() {
    rules("f(x.y) := 1", 2, 2);
    rules("f(input.x) := 1", 4, 2);
    rules("f([1, {x}]) := 1", 4, 2);
    right("f({1: [x]}, (1), -1, set()) := 1", 1);
    rules("f({(x): 1}) := 1", 4, 2);
    rules("f((x)) := 1", 4, 2);
    rules("a if { some count([1]) in [] }", 4, 12);
    rules("a if { [x, 1 + 1] := [1, 2] }", 4, 7);
    rules("a if { {x} := 1 }", 4, 7);
    rules("a if { input.x := 1 }", 4, 7);
    right("a if { (1) := 1; [(1), {2: 3}, {4}] := 1 }", 1);
    rules("a if { [x | x := 1] := 1 }", 4, 7);
  }

  private static void targets() {
    rules("a if { b with data.p.b.c as 1 }\nb := 1", 5, 14);
    rules("a if { b with data.p as 1 }\nb := 1", 5, 14);
    rules("b := 1\na if { b with data.p.b.c as 1 }", 5, 21);
    rules("a if { b with data.p.f.x as 1 }\nb := 1\nf(x) := 1", 5, 14);
    right("a if { b with data.p.f as 1 }\nb := 1\nf(x) := 1", 3);
    right("a if { b with data.p.x.y as 1 with data.q as 1 }\nb := 1", 2);
    fault("5:1@30", "package a.b.c x := 1", "package q y if { input.x with data.a.b as 1 }");
    fault("5:1@30", "package a.b.c x := 1", "package q y if { input.x with data.a as 1 }");
    fault("2", "package a.b.c x := 1", "package q y if { input.x with data.a.c as 1 }");
  }

  private static void depends() {
    rules("a := a", 6, 0);
    rules("b := 1\na if c\nc if a", 6, 7);
    rules("a := 1\na if data.p", 6, 0);
    rules("a := 1\nf(x) := data.p[x]", 6, 7);
    rules("f(x) := f(x)", 6, 0);
    rules("b := 1\na if { data.p.a with input as 1 }", 6, 7);
    rules("b := 1\na := [x | x := data.p.b with input as [y | y := data.p.a]]", 6, 7);
    rules("a := data[input.x]", 6, 0);
    rules("a := data[\"p\"].a.b.c", 6, 0);
    rules("a if { input.x with data.p.a as 1 with input as data.p.a }", 6, 0);
    right("a := data[\"q\"]\nb := data.p.c\nc := data.p.d", 3);
    String row = "r0 := 1\n";
    for (int i = 1; i < 12; i++) row += "r" + i + " := r" + (i - 1) + "\n";
    right(row, 12);
    fault("7:0@" + (10 + row.length()), "package p\n" + row + "s := 1 if r11\n");
    fault("7:0@10", "package p\n" + "s := 1 if r11\n" + row + "t := s");
    same("rules that r11 depends on", d.h().rule(0, 4), d.h().rule(0, 4));
    fault("4", "package p\na := b\nb := c\nc := d.x\nd contains data.z");
    same("sort", d.h().rule(3, 0), 2);
    same("module", d.h().rule(3, 1), 0);
    same("place", d.h().rule(1, 2), 17);
    same("parts", d.h().rule(1, 3), 1);
    same("depends", d.h().rule(0, 4), 3);
    same("depends", d.h().rule(3, 4), 0);
    same("no such what", d.h().rule(0, 5), -1);
    for (int r = -1; r <= 4; r += 5) {
      boolean thrown = false;
      try {
        d.h().rule(r, 9);
      } catch (java.util.NoSuchElementException e) {
        thrown = true;
      }
      Desk.same("rule " + r + " throws", thrown, true);
    }
    fault("3", "package p\nf(x) := 1\ndefault g := 1", "package p\no[1] := 2\ng := 3\nf(y) := 2");
    same("sort", d.h().rule(0, 0) + "" + d.h().rule(1, 0) + d.h().rule(2, 0), "103");
    same("module", d.h().rule(2, 1), 1);
    same("first part", d.h().rule(1, 1) + "@" + d.h().rule(1, 2), "0@20");
    same("parts", d.h().rule(0, 3) + "" + d.h().rule(1, 3) + d.h().rule(2, 3), "221");
  }

  private static void unsafe() {
    rules("a if { some x; x > 1 }", 8, 15);
    rules("a if { some x; true }", 8, 7);
    rules("a if { some x; not input[x] }", 8, 15);
    rules("a if { some x; y := [x | true] }", 8, 15);
    rules("a if { some x; every y in [1] { y == x } }", 8, 15);
    rules("a if { x := y; y := x }", 8, 7);
    rules("a if { some x; x = x }", 8, 15);
    rules("a if { some x, y; [x, 1] = [y, 2] }", 8, 18);
    rules("a := input[x] if { some x; input.y[_] == 1 }", 8, 19);
    right("a := [x | true] if { some x; input[x] }", 1);
    rules("o[x] := y if { some x, y; input[x] }", 8, 15);
    rules("a := [input[y] | some y; true]", 8, 17);
    right("a if { some x; input.y with input as x; x = 1; input.z[x] with input as 1; true }", 1);
    rules("a if { some x; input.y[x] with input as x }", 8, 15);
    rules("a if { some x; every y in input[x] { y == 1 } }", 8, 15);
    rules("a if { some x; not input[x] }", 8, 15);
    rules("a if { some x; input.y with input as input[x] }", 8, 15);
    rules("a if { [1] == [x | some x; x == input.y] }", 8, 27);
    rules("a := [y | some y in input] if { some x; x == 1 }", 8, 40);
    right("a if { y := x + 1; x := 1 }", 1);
    right("a if { some x; input.y[x].z[x] }", 1);
    right("a if { some x; [x, 1] = input.y }", 1);
    right("a if { some x; {\"k\": x} = input.y }", 1);
    right("a if { some x, y; {x: y} = {input.y[x]: 1} }", 1);
    right("a if { some x; input.y = x }", 1);
    right("f(x) := y if { y := x }", 1);
    right("a := input.y[_]", 1);
  }

  private static void kinds() {
    rules("a := count(5)", 9, 11);
    rules("a := count(null)", 9, 11);
    rules("a := abs(\"x\")", 9, 9);
    rules("a := abs(((\"x\")))", 9, 9);
    rules("a := abs([1])", 9, 9);
    rules("a := upper({})", 9, 11);
    rules("a := sum({1: 2})", 9, 9);
    rules("a := concat([], [])", 9, 12);
    rules("a := object.keys([])", 9, 17);
    rules("a := union([])", 9, 11);
    rules("a := numbers.range(1, \"2\")", 9, 22);
    rules("a := array.reverse(set())", 9, 19);
    rules("a if { x := 1 with input as abs(true) }", 9, 32);
    right("a := abs([input.x])", 1);
    right("a := count(\"x\")", 1);
    right("a := numbers.range(1.5, 2)", 1);
    right("a := json.marshal(1)", 1);
    right("a := sum(set())", 1);
    rules("a := abs(\"x\")\nb := c", 2, 19);
    rules("a := abs(\"x\")\nb if { some x; true }", 8, 21);
  }

  private static void queries() {
    d = new Desk();
    fault("3", "package p\nf(x) := x\na := 1\nb if { true }");
    asks("x := a", "2@5");
    asks("x := f(1)", "2@5");
    asks("x := data.p.f(7)", "[7]");
    asks("x := p.a", "2@5");
    asks("a := data.p.a", "[1]");
    asks("input := 1", "3@0");
    asks("x := 1; x := 2", "3@8");
    asks("x.y := 1", "2@0");
    asks("input.y := 1", "4@0");
    asks("x := 1 with data.p as 2", "5@12");
    asks("x := 1 with data.p.a.b as 2", "5@12");
    asks("x := 1 with data.p.a as 2", "[1]");
    asks("some x; x > 1", "8@8");
    asks("x := abs(\"1\")", "9@9");
    asks("some x", "8@0");
    ready(60, 40);
    int q = d.prepare("y := x; x := 1; z := [y | some y in [1]]");
    same("a clash within", q, -7003);
    q = d.prepare("y := x; some z; input[z] == y; x := 1");
    for (int k = -1; k < 5; k++) {
      int due = k == 0 ? 1 : k == 1 ? 3 : k == 2 ? 0 : k == 3 ? 2 : -1;
      Desk.same("order " + k, d.h().order(q, k), due);
    }
    same("order of none", d.h().order(3, 0), -1);
    same("order of -1", d.h().order(-1, 0), -1);
    same("fault of a right query", d.h().fault(0) + " " + d.h().fault(1) + " " + d.h().fault(2), "0 -1 -1");
    same("a fault", d.ask("x := y"), "2@5");
    same("wrong", d.ask("x := "), "wrong 5");
    same("the fault stays", d.h().fault(0) + " " + d.h().fault(1) + " " + d.h().fault(2), "2 -1 5");
    same("no such what", d.h().fault(3) + " " + d.h().fault(-1), "-1 -1");
    d = new Desk();
  }

  private static void withs() {
    d = new Desk();
    fault("4", "package p\na if { input.x with input as 1 }\nb if { a with input as 1 }\nc if { b with input as 1 }\nd if { c with input as 1 }");
    asks("data.p.c", "");
    asks("data.p.d", "7@0");
    asks("true; data.p.c with input as 1", "7@6");
    asks("true; data.p.c with input as data.p.c", "7@6");
    asks("true; data.p.b with input as data.p.c", "");
    asks("x := [y | y := data.p.d]", "7@0");
    asks("data[input.x]", "7@0");
    asks("true; x := [y | y := 1 with input as [z | z := data.p.c with input as 1]]", "7@6");
    asks("some x; data.p.d", "7@8");
  }

  private static void lives() {
    d = new Desk();
    same("activate", d.mods("package p\nf(x) := 1"), "1");
    for (int i = 0; i < 4; i++) Desk.same("prepare", d.prepare("x := data.p.f(1)"), i);
    same("no room", d.prepare("x := 1"), -10000);
    same("a fault ahead of no room", d.prepare("x := y"), -7002);
    same("wrong ahead of no room", d.prepare("x"), -7002);
    same("queries", d.h().count(2), 4);
    same("release", d.h().release(1), true);
    same("release again", d.h().release(1), false);
    same("release of none", d.h().release(4) || d.h().release(-1), false);
    same("the least free", d.prepare("x := 2"), 1);
    same("drop and activate", d.mods(), "0");
    same("renew by a bundle without it", d.h().renew(0), -2);
    same("its fault", d.h().fault(0) + " " + d.h().fault(1) + " " + d.h().fault(2), "2 -1 5");
    same("it stays", d.h().run(0, false), 1);
    same("renew", d.h().renew(1), 1);
    same("its fault", d.h().fault(0), 0);
    same("renew of none", d.h().renew(4) + d.h().renew(-1), -2);
    same("check", d.h().check(), 0);
    same("a faulty draft", d.mods("package p\na := b"), "2:0@15");
    same("the active bundle stays", d.h().count(1), 0);
    same("check", d.h().check(), 2);
    same("activate", d.h().activate(), -2);
    d = new Desk();
  }

  public static void main(String[] args) {
    clashes();
    names();
    declared();
    patterns();
    targets();
    depends();
    unsafe();
    kinds();
    queries();
    withs();
    lives();
    Desk.end("faults");
  }
}
