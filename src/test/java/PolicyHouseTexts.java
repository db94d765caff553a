// Promises 1 to 5 and 9 to 11: the tape, JSON texts, module and query texts with their places.
public final class PolicyHouseTexts extends Sheet {
  private static void newObject() {
    PolicyHouse x = new PolicyHouse();
    for (int what = 0; what <= 6; what++) same("new count " + what, x.count(what), what == 3 ? 1 : 0);
    same("count of -1", x.count(-1), -1);
    same("count of 7", x.count(7), -1);
    same("new fault 0", x.fault(0), 0);
    same("new fault 1", x.fault(1), -1);
    same("new fault 2", x.fault(2), -1);
    same("new about", x.about(0), -1);
    same("new covered", x.covered(-1), -1);
    same("new result", x.result(0, 0), -1);
    same("new document", x.document(0), -1);
    same("new output", x.output(0), -1);
    same("new run", x.run(0, false), -1);
    same("new order", x.order(0, 0), -1);
    same("new drop", x.drop(), 0);
    same("new check", x.check(), 0);
    same("new activate", x.activate(), 0);
  }

  private static void tape() {
    PolicyHouse x = new PolicyHouse();
    for (int i = 0; i < 300; i++) same("feed", x.feed(1, 2, 3, 4, -1) ? 1 : 0, 1);
    same("feed of a full tape", x.feed(1, 2, 3, 4, 5) ? 1 : 0, 0);
    same("bytes of a full tape", x.count(5), 6000);
    same("end above", x.end(6001) ? 1 : 0, 0);
    same("end below", x.end(-1) ? 1 : 0, 0);
    same("end", x.end(5981) ? 1 : 0, 1);
    same("feed without room for all", x.feed(1, 2, 3, 4, 5) ? 1 : 0, 0);
    same("bytes then", x.count(5), 5981);
    same("end", x.end(5980) ? 1 : 0, 1);
    same("feed with room", x.feed(1, 2, 3, 4, 5) ? 1 : 0, 1);
    same("end at 0", x.end(0) ? 1 : 0, 1);
    same("end again", x.end(0) ? 1 : 0, 1);
    same("end above what there is", x.end(1) ? 1 : 0, 0);
    x.feed(('"' << 24) + ('a' << 16) + (0xff << 8) + 0xfe, '"' << 24, 0, 0, 0);
    x.end(5);
    same("a string of four bytes", x.input(), 4);
  }

  private static void jsonTexts() {
    json("null", 1, "null");
    json(" [ true , false ] ", 3, "[true,false]");
    json("\t\r\n-0", 1, "0");
    json("-1.50", 1, "-1.5");
    json("0.000001", 1, "0.000001");
    json("1000000000000", 1, "1000000000000");
    json("-1000000000000.000000", 1, "-1000000000000");
    json("\"\\\"\\\\\\/\\b\\f\\n\\r\\t\\u001f\\u00fF\"", 11, "\"\\\"\\\\/\\b\\f\\n\\r\\t\\u001f\u00ff\"");
    json("{\"b\":1,\"a\":[],\"b\":{}}", 7, "{\"a\":[],\"b\":{}}");
    json("{\"\":{}}", 3, "{\"\":{}}");
    json("\"\u007f\u0080\"", 3, "\"\u007f\u0080\"");
    json("[".repeat(12) + "]".repeat(12), 12, "[".repeat(12) + "]".repeat(12));
    wrongJson("[".repeat(13) + "]".repeat(13), 12);
    wrongJson("{\"a\":" + "[".repeat(12), 16);
    wrongJson(" ", 1);
    wrongJson("nul", 3);
    wrongJson("nulx", 3);
    wrongJson("nullx", 4);
    wrongJson("01", 1);
    wrongJson("-", 1);
    wrongJson("-a", 1);
    wrongJson("1.", 2);
    wrongJson("1.a", 2);
    wrongJson("1.1234567", 8);
    wrongJson("+1", 0);
    wrongJson(".5", 0);
    wrongJson("1e5", 1);
    wrongJson("[1000000000000.0000001]", 22 - 1);
    wrongJson("[1000000000000.000001]", 1);
    wrongJson("[1000000000000.0000011]", 1);
    wrongJson("-1000000000001", 0);
    wrongJson("[9999999999999.]", 1);
    wrongJson("[1,]", 3);
    wrongJson("[,1]", 1);
    wrongJson("[1 2]", 3);
    wrongJson("{1:2}", 1);
    wrongJson("{\"a\" 1}", 5);
    wrongJson("{\"a\":1,}", 7);
    wrongJson("{\"a\":1", 6);
    wrongJson("[1]]", 3);
    wrongJson("\"ab", 3);
    wrongJson("\"a\nb\"", 2);
    wrongJson("\"a\\", 3);
    wrongJson("\"a\\q\"", 2);
    wrongJson("\"a\\u0100\"", 2);
    wrongJson("\"a\\u00g0\"", 2);
    wrongJson("\"a\\u00", 6);
    wrongJson("\"a\\u1", 2);
    wrongJson("\"a\\u", 4);
    wrongJson("'a'", 0);
  }

  private static void jsonBounds() {
    same("data that is no object", d.data("[1]"), -10000);
    same("data as heavy as may be", d.data("{\"a\":\"" + "x".repeat(3994) + "\"}"), 1 + 2 + 3995);
    same("its weight", d.h().count(3), 3998);
    d = new Desk();
    same("data too great", d.data("{\"a\":\"" + "x".repeat(3997) + "\"}"), -10000);
    same("data stays", d.h().count(3), 1);
    d = new Desk();
    same("input as heavy as may be", d.input("\"" + "x".repeat(3999) + "\""), 4000);
    same("its weight", d.h().count(4), 4000);
    d = new Desk();
    same("input too great", d.input("\"" + "x".repeat(4000) + "\""), -10000);
    same("input", d.input("5"), 1);
    same("wrong input", d.input("5x"), -2);
    same("input stays", d.h().count(4), 1);
    same("no input", d.h().input(), 0);
    same("its weight", d.h().count(4), 0);
    same("data of an empty tape", d.h().data(), -1);
    same("patch of an empty tape", d.h().patch(), -1);
    same("module of an empty tape", d.h().module(), -1);
    same("prepare of an empty tape", d.h().prepare(), -1);
  }

  private static void patches() {
    same("data", d.data("{\"a\":[1,2],\"b\":{\"c\":null}}"), 12);
    same("an empty patch", d.patch("[]"), 12);
    same("a patch", d.patch("[{\"op\":\"add\",\"path\":\"/a/1\",\"value\":9},{\"op\":\"remove\",\"path\":\"/b/c\"}]"), 10);
    same("a patch that is no array", d.patch("{}"), -10000);
    same("a patch that can't be done", d.patch("[{\"op\":\"remove\",\"path\":\"/x\"}]"), -10000);
    same("a patch to no object", d.patch("[{\"op\":\"replace\",\"path\":\"\",\"value\":[1]}]"), -10000);
    same("a patch that fails late", d.patch("[{\"op\":\"add\",\"path\":\"/b/d\",\"value\":1},{\"op\":\"test\",\"path\":\"/b\",\"value\":2}]"), -10000);
    same("data stays", d.h().count(3), 10);
    same("data", d.data("{\"a\":" + "[".repeat(11) + "]".repeat(11) + "}"), 14);
    String inner = "[{\"op\":\"add\",\"path\":\"/a" + "/0".repeat(10) + "/-\",\"value\":";
    same("21 deep", d.patch(inner + "[".repeat(9) + "]".repeat(9) + "}]"), -10000);
    same("20 deep", d.patch(inner + "[".repeat(8) + "]".repeat(8) + "}]"), 22);
    same("data", d.data("{\"a\":\"" + "x".repeat(1000) + "\"}"), 1004);
    String copies = "[{\"op\":\"copy\",\"from\":\"/a\",\"path\":\"/b\"},{\"op\":\"copy\",\"from\":\"/a\",\"path\":\"/c\"}";
    same("copies", d.patch(copies + "]"), 1 + 3 * 1003);
    same("a patch that is too great on its way", d.patch("[{\"op\":\"copy\",\"from\":\"/a\",\"path\":\"/d\"},{\"op\":\"remove\",\"path\":\"/d\"}]"), -10000);
    same("data stays", d.h().count(3), 3010);
  }

  private static void modules() {
    module("package p", 0);
    module("package a.b.c.d.e.f # c\nimport data.x\nimport input.y.z as w\n", 0);
    rule("a := 1");
    rule("default a := -1");
    rule("a if true");
    rule("a := {1,2}");
    rule("f(x, [y, _], {\"k\": z}, \"c\") := x if { y == z }");
    rule("s contains x if { some x in [1] }");
    rule("o[k] := v if some k, v in {}");
    rule("a := 1 if { input.x; input.y } else := 2 else := 3 if { true\n true } else if { false }");
    rule("a := `raw \\ \n \"`");
    rule("a if every x in [1] { x == 1; x != 2; }");
    rule("a if { not input.x with input as 1 with data.y.z as 2 }");
    rule("a := set( \n )");
    rule("a := data. x");
    rule("a if { x := input. y[ 0 ].z; x in [1] }");
    rule("a := [x | some x in input.y]");
    rule("a := {x: 1 | some x in input.y; x > 0 }");
    rule("a if { 1 + 2 * 3 - 4 / 5 % 6 == 7 }");
    rule("a if { b := {1} | {2} & {3}; b }");
    module("package p\na := 1 b := 2\n\nc if input.x d := 4", 4);
    wrongModule("", 0);
    wrongModule("pack", 0);
    wrongModule("package", 7);
    wrongModule("package _", 8);
    wrongModule("package in", 8);
    wrongModule("package a.b.c.d.e.f.g", 19);
    wrongModule("package a .b", 10);
    wrongModule("package a. b.", 13);
    wrongModule("package p import x.y", 17);
    wrongModule("package p import data", 21);
    wrongModule("package p import data.x as _", 27);
    wrongModule("package p import data.a.b.c.d.e.f.g", 33);
    wrongModule("package p " + "import data.a as b ".repeat(11), 10 + 190);
    wrongModule("package p a := 1 import data.x", 17);
    wrongModule("package p " + "a:=1 ".repeat(101), 10 + 500);
    module("package p " + "a:=1 ".repeat(100), 100);
    wrongModule("package p $", 10);
    wrongModule("package p a := 1 !", 17);
    wrongModule("package p a" + "b".repeat(24) + " := 1", 10);
    module("package p a" + "b".repeat(23) + " := 1", 1);
  }

  private static void rules() {
    wrongRule("a", 1);
    wrongRule("_ := 1", 0);
    wrongRule("a := 1 + 2", 7);
    wrongRule("a := ", 5);
    wrongRule("a = 1", 2);
    wrongRule("a = \"b", 2);
    wrongRule("a := 1 \"b", 7);
    wrongRule("a := 1 `b", 7);
    wrongRule("a := 1 1.", 7);
    wrongRule("a := 1 if", 9);
    wrongRule("a := 1 if {}", 11);
    rule("a if { true; }");
    wrongRule("a if { ; true }", 7);
    wrongRule("a if { true;; true }", 12);
    wrongRule("a if { true true }", 12);
    wrongRule("a if {1} == {1}", 9);
    wrongRule("f() := 1", 2);
    wrongRule("f(1,2,3,4,5) := 1", 9);
    wrongRule("f(1+2) := 1", 3);
    wrongRule("f (x) := 1", 2);
    wrongRule("o [x] := 1", 2);
    wrongRule("o[x] if true", 5);
    wrongRule("s contains if true", 11);
    wrongRule("s contains 1 else := 2", 13);
    wrongRule("o[1] := 2 else := 3", 10);
    wrongRule("a := 1 else", 11);
    wrongRule("a := 1 else true", 12);
    wrongRule("a := 1" + " else := 1".repeat(9), 6 + 80 + 1);
    rule("a := 1" + " else := 1".repeat(8));
    wrongRule("default a := x", 13);
    wrongRule("default a := [1, x]", 17);
    wrongRule("default a := [1 | true]", 16);
    wrongRule("default a := 1 + 2", 15);
    wrongRule("default a := (1 == 2)", 16);
    wrongRule("default a := {1: x}", 17);
    wrongRule("default a := set(1)", 17);
    wrongRule("default a := - 1", 13);
    wrongRule("default a(x) := 1", 9);
    wrongRule("default _ := 1", 8);
    rule("AZaz_09 := [A1, Z, a, z] if { A1 := 1; Z := 2; a := 3; z := 4 }");
    wrongRule("@ := 1", 0);
    wrongRule("[ := 1", 0);
    wrongRule("9a := 1", 0);
    rule("default a := {[(1)]: {\"b\", set( )}, \"c\": {}, -2: `d`}");
    wrongRule("a := [[[[[[[", 11);
    wrongRule("a := [[[[[[1]]]]] ", 18);
    rule("a := [[[[[[1]]]]]]");
    wrongRule("a if { x := [[[[[[1]]]]]] }", 17);
    wrongRule("f([[[[[[x]]]]]]) := 1", 7);
    wrongRule("a := {1, 2: 3}", 10);
    wrongRule("a := {1: 2, 3}", 13);
    wrongRule("a := [1, 2 | true]", 11);
    wrongRule("a := [1,]", 8);
    wrongRule("a := [1 == 2]", 8);
    wrongRule("a := {1 in 2}", 8);
    wrongRule("a := x.y(1).z", 11);
    wrongRule("a := x.y[0](1)", 11);
    wrongRule("a := x._(1)", 8);
    wrongRule("a := _(1)", 6);
    rule("a := a.b.c.d.e.f(1)");
    rule("a := a.b.c.d.e.f.g.h[1]");
    wrongRule("a := a.b.c.d.e.f.g(1)", 18);
    wrongRule("a := x.if", 7);
    wrongRule("a := 1.", 7);
    wrongRule("a := 1.b", 7);
    wrongRule("a := 1.1234567", 13);
    wrongRule("a := 1000000000001", 5);
    wrongRule("a := -1000000000001", 6);
    wrongRule("a := \"b\nc\"", 7);
    wrongRule("a := \"b\\u0100\"", 7);
    wrongRule("a := \"b", 7);
    wrongRule("a := `b", 7);
    wrongRule("a if 1 == 2 == 3", 12);
    wrongRule("a if 1 in 2 in 3", 12);
    wrongRule("a if not not b", 9);
    wrongRule("a if not x = y", 11);
    wrongRule("a if not x := y", 11);
    wrongRule("a if x + 1 := y", 11);
    wrongRule("a if x = y = z", 11);
    wrongRule("a if some", 9);
    wrongRule("a if some _ ", 12);
    wrongRule("a if some x.y", 13);
    wrongRule("a if some 1", 11);
    wrongRule("a if some x, 1", 14);
    wrongRule("a if some x, y, _", 16);
    wrongRule("a if some x, y, z in w", 18);
    wrongRule("a if some x, y with input as 1", 15);
    wrongRule("a if every _ in x { true }", 11);
    wrongRule("a if every x, _ in y { true }", 14);
    wrongRule("a if every x in y true", 18);
    wrongRule("a if every x in y {}", 19);
    wrongRule("a if b with c as 1", 12);
    wrongRule("a if b with data as 1", 17);
    wrongRule("a if b with input .c as 1", 18);
    wrongRule("a if b with data.x[1] as 1", 18);
    wrongRule("a if b" + " with input as 1".repeat(5), 6 + 64 + 1);
    rule("a if b" + " with input as 1".repeat(4));
    wrongRule("a if b with input.a.b.c.d.e.f.g as 1", 29);
  }


  private static void queries() {
    query("true;");
    query("x := 1\ny := 2 # end");
    query("x := 1 +\n2");
    wrongQuery(" ", 1);
    wrongQuery("true false", 5);
    wrongQuery("true;;", 5);
    wrongQuery("true}", 4);
    wrongQuery("x := 1 ! 2", 7);
    wrongQuery("some x, y := 1", 10);
    wrongQuery("x := ((((((( 1", 11);
    wrongQuery("x := a (1)", 7);
    wrongQuery("x := a [1]", 7);
    wrongQuery("x := a .b", 7);
    wrongQuery("x := 00", 6);
    wrongQuery("x := - 1", 5);
    ready(0, 0).tape("x := 1");
    d.h().end(3);
    same("a text that the tape's end cuts", d.h().prepare(), -3);
  }

  private static void draft() {
    d = new Desk();
    for (int i = 0; i < 4; i++) {
      same("module", d.module("package p" + i + " a := 1 else := 2 b := 3"), 2);
    }
    same("modules", d.h().count(0), 4);
    same("a fifth module", d.module("package p"), -10000);
    same("a fifth module that is wrong", d.module("package 5"), -9);
    same("modules stay", d.h().count(0), 4);
    same("rules", d.h().activate(), 8);
    same("modules stay", d.h().count(0), 4);
    same("drop", d.h().drop(), 4);
    same("drop again", d.h().drop(), 0);
    same("rules of the active bundle stay", d.h().count(1), 8);
    same("activate nothing", d.h().activate(), 0);
    same("no rules then", d.h().count(1), 0);
  }

  public static void main(String[] args) {
    newObject();
    tape();
    jsonTexts();
    jsonBounds();
    patches();
    modules();
    rules();
    queries();
    draft();
    Desk.end("texts");
  }
}
