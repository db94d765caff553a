// Promises 1 to 5 and 9 to 11: the tape, JSON texts, module and query texts with their places.
public final class PolicyHouseTexts {
  private static int wrong = 0;

  private static void same(String what, long got, long due) {
    if (got == due) return;
    wrong++;
    System.out.println(what + " answered " + got + ", due is " + due);
  }

  private static void same(String what, String got, String due) {
    if (got.equals(due)) return;
    wrong++;
    System.out.println(what + " answered " + got + ", due is " + due);
  }

  private static PolicyHouse h = new PolicyHouse();
  private static int calls = 0;

  /** A fresh house ahead of the calls that one may take. */
  private static void tape(String s) {
    byte[] b = Desk.bytes(s);
    calls += b.length / 20 + 6;
    if (calls > 400) {
      h = new PolicyHouse();
      calls = b.length / 20 + 6;
    }
    Desk.tape(h, b);
  }

  private static void wrongJson(String s, int place) {
    tape(s);
    same("data of " + s, h.data(), -1 - place);
    tape(s);
    same("input of " + s, h.input(), -1 - place);
    tape(s);
    same("patch of " + s, h.patch(), -1 - place);
  }

  /** Reads a JSON text as input, and prints it by a query. */
  private static void json(String s, int weight, String print) {
    tape(s);
    same("input of " + s, h.input(), weight);
    tape("x := input");
    int q = h.prepare();
    same("run of " + s, h.run(q, false), 1);
    int n = h.result(0, 0);
    StringBuilder b = new StringBuilder();
    for (int i = 0; i < n; i++) b.append((char) h.output(i));
    same("print of " + s, b.toString(), "[" + print + "]");
    h.release(q);
    tape("");
    h.input();
  }

  private static void module(String s, int due) {
    tape(s);
    h.drop();
    same("module of " + s, h.module(), due);
    same("tape behind it", h.count(5), 0);
  }

  private static void wrongModule(String s, int place) {
    module(s, -1 - place);
  }

  /** A rule's text behind "package p" and a byte 10; places are told from the rule on. */
  private static void rule(String s) {
    module("package p\n" + s, 1);
  }

  private static void wrongRule(String s, int place) {
    wrongModule("package p\n" + s, 10 + place);
  }

  private static void wrongQuery(String s, int place) {
    tape(s);
    same("prepare of " + s, h.prepare(), -1 - place);
  }

  private static void query(String s) {
    tape(s);
    int n = h.prepare();
    same("prepare of " + s, n >= 0 ? 0 : n, 0);
    h.release(n);
  }

  private static String times(String s, int n) {
    StringBuilder b = new StringBuilder();
    for (int i = 0; i < n; i++) b.append(s);
    return b.toString();
  }

  private static void newObject() {
    PolicyHouse x = new PolicyHouse();
    for (int what = 0; what <= 6; what++) same("new count " + what, x.count(what), what == 3 ? 1 : 0);
    same("count of -1", x.count(-1), -1);
    same("count of 7", x.count(7), -1);
    same("new fault 0", x.fault(0), 0);
    same("new fault 1", x.fault(1), -1);
    same("new fault 2", x.fault(2), -1);
    same("new about", x.about(0), -1);
    same("new covered", x.covered(-1), -1);
    same("new result", x.result(0, 0), -1);
    same("new document", x.document(0), -1);
    same("new output", x.output(0), -1);
    same("new run", x.run(0, false), -1);
    same("new order", x.order(0, 0), -1);
    same("new drop", x.drop(), 0);
    same("new check", x.check(), 0);
    same("new activate", x.activate(), 0);
  }

  private static void tape() {
    PolicyHouse x = new PolicyHouse();
    for (int i = 0; i < 300; i++) same("feed", x.feed(1, 2, 3, 4, -1) ? 1 : 0, 1);
    same("feed of a full tape", x.feed(1, 2, 3, 4, 5) ? 1 : 0, 0);
    same("bytes of a full tape", x.count(5), 6000);
    same("end above", x.end(6001) ? 1 : 0, 0);
    same("end below", x.end(-1) ? 1 : 0, 0);
    same("end", x.end(5981) ? 1 : 0, 1);
    same("feed without room for all", x.feed(1, 2, 3, 4, 5) ? 1 : 0, 0);
    same("bytes then", x.count(5), 5981);
    same("end", x.end(5980) ? 1 : 0, 1);
    same("feed with room", x.feed(1, 2, 3, 4, 5) ? 1 : 0, 1);
    same("end at 0", x.end(0) ? 1 : 0, 1);
    same("end again", x.end(0) ? 1 : 0, 1);
    same("end above what there is", x.end(1) ? 1 : 0, 0);
    x.feed(('"' << 24) + ('a' << 16) + (0xff << 8) + 0xfe, '"' << 24, 0, 0, 0);
    x.end(5);
    same("a string of four bytes", x.input(), 4);
  }

  private static void jsonTexts() {
    json("null", 1, "null");
    json(" [ true , false ] ", 3, "[true,false]");
    json("\t\r\n-0", 1, "0");
    json("-1.50", 1, "-1.5");
    json("0.000001", 1, "0.000001");
    json("1000000000000", 1, "1000000000000");
    json("-1000000000000.000000", 1, "-1000000000000");
    json("\"\\\"\\\\\\/\\b\\f\\n\\r\\t\\u001f\\u00fF\"", 11, "\"\\\"\\\\/\\b\\f\\n\\r\\t\\u001f\u00ff\"");
    json("{\"b\":1,\"a\":[],\"b\":{}}", 7, "{\"a\":[],\"b\":{}}");
    json("{\"\":{}}", 3, "{\"\":{}}");
    json("\"\u007f\u0080\"", 3, "\"\u007f\u0080\"");
    json(times("[", 12) + times("]", 12), 12, times("[", 12) + times("]", 12));
    wrongJson(times("[", 13) + times("]", 13), 12);
    wrongJson("{\"a\":" + times("[", 12), 16);
    wrongJson(" ", 1);
    wrongJson("nul", 3);
    wrongJson("nulx", 3);
    wrongJson("nullx", 4);
    wrongJson("01", 1);
    wrongJson("-", 1);
    wrongJson("-a", 1);
    wrongJson("1.", 2);
    wrongJson("1.a", 2);
    wrongJson("1.1234567", 8);
    wrongJson("+1", 0);
    wrongJson(".5", 0);
    wrongJson("1e5", 1);
    wrongJson("[1000000000000.0000001]", 22 - 1);
    wrongJson("[1000000000000.000001]", 1);
    wrongJson("[1000000000000.0000011]", 1);
    wrongJson("-1000000000001", 0);
    wrongJson("[9999999999999.]", 1);
    wrongJson("[1,]", 3);
    wrongJson("[,1]", 1);
    wrongJson("[1 2]", 3);
    wrongJson("{1:2}", 1);
    wrongJson("{\"a\" 1}", 5);
    wrongJson("{\"a\":1,}", 7);
    wrongJson("{\"a\":1", 6);
    wrongJson("[1]]", 3);
    wrongJson("\"ab", 3);
    wrongJson("\"a\nb\"", 2);
    wrongJson("\"a\\", 3);
    wrongJson("\"a\\q\"", 2);
    wrongJson("\"a\\u0100\"", 2);
    wrongJson("\"a\\u00g0\"", 2);
    wrongJson("\"a\\u00", 6);
    wrongJson("\"a\\u1", 2);
    wrongJson("\"a\\u", 4);
    wrongJson("'a'", 0);
  }

  private static void jsonBounds() {
    tape("[1]");
    same("data that is no object", h.data(), -10000);
    tape("{\"a\":\"" + times("x", 3994) + "\"}");
    same("data as heavy as may be", h.data(), 1 + 2 + 3995);
    same("its weight", h.count(3), 3998);
    h = new PolicyHouse();
    tape("{\"a\":\"" + times("x", 3997) + "\"}");
    same("data too great", h.data(), -10000);
    same("data stays", h.count(3), 1);
    h = new PolicyHouse();
    tape("\"" + times("x", 3999) + "\"");
    same("input as heavy as may be", h.input(), 4000);
    same("its weight", h.count(4), 4000);
    h = new PolicyHouse();
    tape("\"" + times("x", 4000) + "\"");
    same("input too great", h.input(), -10000);
    tape("5");
    same("input", h.input(), 1);
    tape("5x");
    same("wrong input", h.input(), -2);
    same("input stays", h.count(4), 1);
    same("no input", h.input(), 0);
    same("its weight", h.count(4), 0);
    same("data of an empty tape", h.data(), -1);
    same("patch of an empty tape", h.patch(), -1);
    same("module of an empty tape", h.module(), -1);
    same("prepare of an empty tape", h.prepare(), -1);
  }

  private static void patches() {
    tape("{\"a\":[1,2],\"b\":{\"c\":null}}");
    same("data", h.data(), 12);
    tape("[]");
    same("an empty patch", h.patch(), 12);
    tape("[{\"op\":\"add\",\"path\":\"/a/1\",\"value\":9},{\"op\":\"remove\",\"path\":\"/b/c\"}]");
    same("a patch", h.patch(), 10);
    tape("{}");
    same("a patch that is no array", h.patch(), -10000);
    tape("[{\"op\":\"remove\",\"path\":\"/x\"}]");
    same("a patch that can't be done", h.patch(), -10000);
    tape("[{\"op\":\"replace\",\"path\":\"\",\"value\":[1]}]");
    same("a patch to no object", h.patch(), -10000);
    tape("[{\"op\":\"add\",\"path\":\"/b/d\",\"value\":1},{\"op\":\"test\",\"path\":\"/b\",\"value\":2}]");
    same("a patch that fails late", h.patch(), -10000);
    same("data stays", h.count(3), 10);
    tape("{\"a\":" + times("[", 11) + times("]", 11) + "}");
    same("data", h.data(), 14);
    String inner = "[{\"op\":\"add\",\"path\":\"/a" + times("/0", 10) + "/-\",\"value\":";
    tape(inner + times("[", 9) + times("]", 9) + "}]");
    same("21 deep", h.patch(), -10000);
    tape(inner + times("[", 8) + times("]", 8) + "}]");
    same("20 deep", h.patch(), 22);
    tape("{\"a\":\"" + times("x", 1000) + "\"}");
    same("data", h.data(), 1004);
    String copies = "[{\"op\":\"copy\",\"from\":\"/a\",\"path\":\"/b\"},{\"op\":\"copy\",\"from\":\"/a\",\"path\":\"/c\"}";
    tape(copies + "]");
    same("copies", h.patch(), 1 + 3 * 1003);
    tape("[{\"op\":\"copy\",\"from\":\"/a\",\"path\":\"/d\"},{\"op\":\"remove\",\"path\":\"/d\"}]");
    same("a patch that is too great on its way", h.patch(), -10000);
    same("data stays", h.count(3), 3010);
  }

  private static void modules() {
    module("package p", 0);
    module("package a.b.c.d.e.f # c\nimport data.x\nimport input.y.z as w\n", 0);
    rule("a := 1");
    rule("default a := -1");
    rule("a if true");
    rule("a := {1,2}");
    rule("f(x, [y, _], {\"k\": z}, \"c\") := x if { y == z }");
    rule("s contains x if { some x in [1] }");
    rule("o[k] := v if some k, v in {}");
    rule("a := 1 if { input.x; input.y } else := 2 else := 3 if { true\n true } else if { false }");
    rule("a := `raw \\ \n \"`");
    rule("a if every x in [1] { x == 1; x != 2; }");
    rule("a if { not input.x with input as 1 with data.y.z as 2 }");
    rule("a := set( \n )");
    rule("a := data. x");
    rule("a if { x := input. y[ 0 ].z; x in [1] }");
    rule("a := [x | some x in input.y]");
    rule("a := {x: 1 | some x in input.y; x > 0 }");
    rule("a if { 1 + 2 * 3 - 4 / 5 % 6 == 7 }");
    rule("a if { b := {1} | {2} & {3}; b }");
    module("package p\na := 1 b := 2\n\nc if input.x d := 4", 4);
    wrongModule("", 0);
    wrongModule("pack", 0);
    wrongModule("package", 7);
    wrongModule("package _", 8);
    wrongModule("package in", 8);
    wrongModule("package a.b.c.d.e.f.g", 19);
    wrongModule("package a .b", 10);
    wrongModule("package a. b.", 13);
    wrongModule("package p import x.y", 17);
    wrongModule("package p import data", 21);
    wrongModule("package p import data.x as _", 27);
    wrongModule("package p import data.a.b.c.d.e.f.g", 33);
    wrongModule("package p " + times("import data.a as b ", 11), 10 + 190);
    wrongModule("package p a := 1 import data.x", 17);
    wrongModule("package p " + times("a:=1 ", 101), 10 + 500);
    module("package p " + times("a:=1 ", 100), 100);
    wrongModule("package p $", 10);
    wrongModule("package p a := 1 !", 17);
    wrongModule("package p a" + times("b", 24) + " := 1", 10);
    module("package p a" + times("b", 23) + " := 1", 1);
  }

  private static void rules() {
    wrongRule("a", 1);
    wrongRule("_ := 1", 0);
    wrongRule("a := 1 + 2", 7);
    wrongRule("a := ", 5);
    wrongRule("a = 1", 2);
    wrongRule("a = \"b", 2);
    wrongRule("a := 1 \"b", 7);
    wrongRule("a := 1 `b", 7);
    wrongRule("a := 1 1.", 7);
    wrongRule("a := 1 if", 9);
    wrongRule("a := 1 if {}", 11);
    rule("a if { true; }");
    wrongRule("a if { ; true }", 7);
    wrongRule("a if { true;; true }", 12);
    wrongRule("a if { true true }", 12);
    wrongRule("a if {1} == {1}", 9);
    wrongRule("f() := 1", 2);
    wrongRule("f(1,2,3,4,5) := 1", 9);
    wrongRule("f(1+2) := 1", 3);
    wrongRule("f (x) := 1", 2);
    wrongRule("o [x] := 1", 2);
    wrongRule("o[x] if true", 5);
    wrongRule("s contains if true", 11);
    wrongRule("s contains 1 else := 2", 13);
    wrongRule("o[1] := 2 else := 3", 10);
    wrongRule("a := 1 else", 11);
    wrongRule("a := 1 else true", 12);
    wrongRule("a := 1" + times(" else := 1", 9), 6 + 80 + 1);
    rule("a := 1" + times(" else := 1", 8));
    wrongRule("default a := x", 13);
    wrongRule("default a := [1, x]", 17);
    wrongRule("default a := [1 | true]", 16);
    wrongRule("default a := 1 + 2", 15);
    wrongRule("default a := (1 == 2)", 16);
    wrongRule("default a := {1: x}", 17);
    wrongRule("default a := set(1)", 17);
    wrongRule("default a := - 1", 13);
    wrongRule("default a(x) := 1", 9);
    wrongRule("default _ := 1", 8);
    rule("AZaz_09 := [A1, Z, a, z] if { A1 := 1; Z := 2; a := 3; z := 4 }");
    wrongRule("@ := 1", 0);
    wrongRule("[ := 1", 0);
    wrongRule("9a := 1", 0);
    rule("default a := {[(1)]: {\"b\", set( )}, \"c\": {}, -2: `d`}");
    wrongRule("a := [[[[[[[", 11);
    wrongRule("a := [[[[[[1]]]]] ", 18);
    rule("a := [[[[[[1]]]]]]");
    wrongRule("a if { x := [[[[[[1]]]]]] }", 17);
    wrongRule("f([[[[[[x]]]]]]) := 1", 7);
    wrongRule("a := {1, 2: 3}", 10);
    wrongRule("a := {1: 2, 3}", 13);
    wrongRule("a := [1, 2 | true]", 11);
    wrongRule("a := [1,]", 8);
    wrongRule("a := [1 == 2]", 8);
    wrongRule("a := {1 in 2}", 8);
    wrongRule("a := x.y(1).z", 11);
    wrongRule("a := x.y[0](1)", 11);
    wrongRule("a := x._(1)", 8);
    wrongRule("a := _(1)", 6);
    rule("a := a.b.c.d.e.f(1)");
    rule("a := a.b.c.d.e.f.g.h[1]");
    wrongRule("a := a.b.c.d.e.f.g(1)", 18);
    wrongRule("a := x.if", 7);
    wrongRule("a := 1.", 7);
    wrongRule("a := 1.b", 7);
    wrongRule("a := 1.1234567", 13);
    wrongRule("a := 1000000000001", 5);
    wrongRule("a := -1000000000001", 6);
    wrongRule("a := \"b\nc\"", 7);
    wrongRule("a := \"b\\u0100\"", 7);
    wrongRule("a := \"b", 7);
    wrongRule("a := `b", 7);
    wrongRule("a if 1 == 2 == 3", 12);
    wrongRule("a if 1 in 2 in 3", 12);
    wrongRule("a if not not b", 9);
    wrongRule("a if not x = y", 11);
    wrongRule("a if not x := y", 11);
    wrongRule("a if x + 1 := y", 11);
    wrongRule("a if x = y = z", 11);
    wrongRule("a if some", 9);
    wrongRule("a if some _ ", 12);
    wrongRule("a if some x.y", 13);
    wrongRule("a if some 1", 11);
    wrongRule("a if some x, 1", 14);
    wrongRule("a if some x, y, _", 16);
    wrongRule("a if some x, y, z in w", 18);
    wrongRule("a if some x, y with input as 1", 15);
    wrongRule("a if every _ in x { true }", 11);
    wrongRule("a if every x, _ in y { true }", 14);
    wrongRule("a if every x in y true", 18);
    wrongRule("a if every x in y {}", 19);
    wrongRule("a if b with c as 1", 12);
    wrongRule("a if b with data as 1", 17);
    wrongRule("a if b with input .c as 1", 18);
    wrongRule("a if b with data.x[1] as 1", 18);
    wrongRule("a if b" + times(" with input as 1", 5), 6 + 64 + 1);
    rule("a if b" + times(" with input as 1", 4));
    wrongRule("a if b with input.a.b.c.d.e.f.g as 1", 29);
  }


  private static void queries() {
    query("true;");
    query("x := 1\ny := 2 # end");
    query("x := 1 +\n2");
    wrongQuery(" ", 1);
    wrongQuery("true false", 5);
    wrongQuery("true;;", 5);
    wrongQuery("true}", 4);
    wrongQuery("x := 1 ! 2", 7);
    wrongQuery("some x, y := 1", 10);
    wrongQuery("x := ((((((( 1", 11);
    wrongQuery("x := a (1)", 7);
    wrongQuery("x := a [1]", 7);
    wrongQuery("x := a .b", 7);
    wrongQuery("x := 00", 6);
    wrongQuery("x := - 1", 5);
    tape("x := 1");
    h.end(3);
    same("a text that the tape's end cuts", h.prepare(), -3);

  }

  private static void draft() {
    PolicyHouse x = new PolicyHouse();
    h = x;
    calls = 0;
    for (int i = 0; i < 4; i++) {
      tape("package p" + i + " a := 1 else := 2 b := 3");
      same("module", x.module(), 2);
    }
    same("modules", x.count(0), 4);
    tape("package p");
    same("a fifth module", x.module(), -10000);
    tape("package 5");
    same("a fifth module that is wrong", x.module(), -9);
    same("modules stay", x.count(0), 4);
    same("rules", x.activate(), 8);
    same("modules stay", x.count(0), 4);
    same("drop", x.drop(), 4);
    same("drop again", x.drop(), 0);
    same("rules of the active bundle stay", x.count(1), 8);
    same("activate nothing", x.activate(), 0);
    same("no rules then", x.count(1), 0);
  }

  public static void main(String[] args) {
    newObject();
    tape();
    jsonTexts();
    jsonBounds();
    patches();
    modules();
    rules();
    queries();
    draft();
    if (wrong > 0) System.exit(1);
    System.out.println("texts: all answers are as due");
  }
}
