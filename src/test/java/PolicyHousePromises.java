import java.util.NoSuchElementException;

// Promises 1 to 23: each call's answers at its edges, what is refused and changes nothing, 512 calls of one object.
public final class PolicyHousePromises extends Sheet {
  private static final int[] NUMBERS = {Integer.MIN_VALUE, -10000, -2, -1, 4, 5, 7, 400, 10000, Integer.MAX_VALUE};

  private static String states() {
    StringBuilder s = new StringBuilder();
    for (int what = 0; what <= 6; what++) s.append(d.h().count(what)).append(' ');
    return s.append(d.faults()).toString();
  }

  private static void constants() {
    same("NONE", PolicyHouse.NONE, -1);
    same("FULL", PolicyHouse.FULL, -10000);
  }

  /** Promise 1, and what each call answers on a new object. */
  private static void fresh() {
    d = new Desk();
    same("counts and fault", states(), "0 0 0 1 0 0 0 0:-1@-1");
    for (int i = -3; i < 8; i++) {
      same("about " + i, d.h().about(i), -1);
      same("covered " + i, d.h().covered(i), -1);
      same("document " + i, d.h().document(i), -1);
      same("output " + i, d.h().output(i), -1);
      same("order " + i, d.h().order(i, 0), -1);
      same("run " + i, d.h().run(i, i > 0), -1);
      same("renew " + i, d.h().renew(i), -1);
      same("release " + i, d.h().release(i), false);
      same("result " + i, d.h().result(i, 0) + d.h().result(0, i), -2);
      same("rule " + i, thrown(i, 0), true);
    }
    same("drop", d.h().drop(), 0);
    same("check", d.h().check(), 0);
    same("activate", d.h().activate(), 0);
    same("nothing to end", d.h().end(1), false);
    same("an end at 0", d.h().end(0), true);
    same("DATA {}, no INPUT", d.ask("x := data") + d.ask("x := input"), "[{}]");
    same("no MODULE", d.h().module(), -1);
    same("no QUERY", d.h().prepare(), -1);
    same("no patch", d.h().patch(), -1);
    same("no DATA", d.h().data(), -1);
    same("no INPUT", d.h().input(), 0);
    same("counts and fault", states(), "0 0 0 1 0 0 4 0:-1@-1");
  }

  private static boolean thrown(int rule, int what) {
    try {
      d.h().rule(rule, what);
      return false;
    } catch (NoSuchElementException e) {
      return true;
    }
  }

  /** Promises 2, 3: "Twenty bytes more on the tape, four in each number, the highest first", "has its first n bytes alone". */
  private static void tape() {
    d = new Desk();
    same("feed", d.h().feed(0x22808182, 0x838485ff, 0xfe7f2041, 0x42434445, 0x46474822), true);
    same("bytes", d.h().count(5), 20);
    same("input", d.h().input(), 19);
    same("the bytes in their order", d.ask("x := input"), "[\"\u0080\u0081\u0082\u0083\u0084\u0085\u00ff\u00fe\u007f ABCDEFGH\"]");
    d.h().feed(0x5b312c2d, 0x322c225d, 0x225d7878, 0, 0);
    same("end above", d.h().end(21), false);
    same("end below 0", d.h().end(-1), false);
    same("end below all", d.h().end(Integer.MIN_VALUE), false);
    same("end above all", d.h().end(Integer.MAX_VALUE), false);
    same("nothing happens", d.h().count(5), 20);
    same("end at all", d.h().end(20), true);
    same("end within", d.h().end(10), true);
    same("bytes", d.h().count(5), 10);
    same("end above what there is now", d.h().end(11), false);
    d.h().feed(0x20200d0a, 0x09202020, 0x20202020, 0x20202020, 0x20202020);
    same("bytes behind", d.h().count(5), 30);
    same("input", d.h().input(), 5);
    same("it", d.ask("x := input"), "[[1,-2,\"]\"]]");
    // At most 6000: as many as there are, then false, and nothing happens.
    d = new Desk();
    for (int i = 1; i <= 300; i++) same("feed " + i, d.h().feed(0x20202020, 0x20202020, 0x20202020, 0x20202020, 0x20202035), true);
    same("a full tape", d.h().count(5), 6000);
    same("feed 301", d.h().feed(0, 0, 0, 0, 0), false);
    same("a full tape", d.h().count(5), 6000);
    for (int n = 5999; n > 5980; n -= 3) {
      same("end", d.h().end(n), true);
      same("feed without room for twenty", d.h().feed(0, 0, 0, 0, 0), false);
      same("nothing happens", d.h().count(5), n);
    }
    same("end", d.h().end(5980), true);
    same("feed with room for twenty", d.h().feed(0x20202020, 0x20202020, 0x20202020, 0x20202020, 0x20202020), true);
    same("a full tape", d.h().count(5), 6000);
    same("the first 5 of 299, then one more", d.h().input(), -1 - 39);
    same("an empty tape", d.h().count(5), 0);
    same("feed again", d.h().feed(0x35202020, 0x20202020, 0x20202020, 0x20202020, 0x20202020), true);
    same("input", d.h().input(), 1);
    d = new Desk();
    same("a text of 6000", d.input("\"" + "\\u0041".repeat(999) + "x\"  "), 1 + 1000);
    d = new Desk();
    same("a module of 6000", d.module("package p" + " a := 1\n".repeat(99) + "#".repeat(6000 - 9 - 8 * 99)), 99);
    d = new Desk();
    same("a QUERY of 6000", d.prepare("1;".repeat(3000)), 0);
    same("its order", d.h().order(0, 2999) + " " + d.h().order(0, 3000), "2999 -1");
    same("its run", d.h().run(0, false), 1);
    same("its TRIES", d.h().covered(-1), 3000);
  }

  /** "the call that reads it empties it, whatever it answers (also where it is refused ahead of reading)". */
  private static void emptied() {
    d = new Desk();
    String[] texts = {"package p a := 1", "package", "package p a := b c", "{\"a\":1}", "[1]", "{", "[{}]", "[]", "5", "x := 1", "x := y", "x :=", " ", ""};
    for (String s : texts) {
      for (int call = 0; call < 5; call++) {
        ready(20, 10);
        d.tape(s);
        read(call);
        same("bytes behind call " + call + " of " + s, d.h().count(5), 0);
      }
    }
    d = new Desk();
    d.data("{\"a\":\"" + "x".repeat(3990) + "\"}");
    same("DATA TOO GREAT", d.patch("[{\"op\":\"copy\",\"from\":\"/a\",\"path\":\"/b\"}]") + " " + d.h().count(5), "-10000 0");
    d = new Desk();
    same("INPUT TOO GREAT", d.input("\"" + "x".repeat(4000) + "\"") + " " + d.h().count(5), "-10000 0");
    d = new Desk();
    for (int i = 0; i < 4; i++) d.module("package p");
    same("a fifth module", d.module("package p") + " " + d.h().count(5), "-10000 0");
    for (int i = 0; i < 4; i++) d.prepare("1");
    same("a fifth QUERY", d.prepare("1") + " " + d.h().count(5), "-10000 0");
  }

  private static int read(int call) {
    switch (call) {
      case 0:
        return d.h().module();
      case 1:
        return d.h().data();
      case 2:
        return d.h().patch();
      case 3:
        return d.h().input();
      default:
        return d.h().prepare();
    }
  }

  /** Promises 4 to 8, 21, 23: the DRAFT and the ACTIVE bundle. */
  private static void drafts() {
    d = new Desk();
    same("else's are none, a default is one", d.module("package p default a := 1 a := 2 else := 3 else := 4 b contains 1"), 3);
    same("no RULES", d.module("package q"), 0);
    same("WRONG", d.module("package r a :="), -1 - 14);
    same("modules", d.h().count(0), 2);
    same("check", d.h().check(), 0);
    same("rules of the ACTIVE bundle", d.h().count(1), 0);
    same("none of them", thrown(0, 0), true);
    same("activate", d.h().activate(), 2);
    same("The DRAFT stays", d.h().count(0) + " " + d.h().count(1), "2 2");
    same("activate again", d.h().activate(), 2);
    same("module", d.module("package p c := d"), 1);
    same("the ACTIVE bundle is as it was", d.h().count(1) + " " + d.h().rule(1, 0), "2 2");
    same("check", d.h().check() + " " + d.faults(), "2 2:2@15");
    same("activate", d.h().activate() + " " + d.faults(), "-2 2:2@15");
    same("nothing happens then", d.h().count(0) + " " + d.h().count(1) + " " + d.h().rule(0, 3), "3 2 2");
    same("a WRONG module leaves the fault", d.module("package") + " " + d.faults(), "-8 2:2@15");
    same("module", d.module("package p d := 1"), 1);
    same("four", d.h().count(0), 4);
    same("a fifth one", d.module("package p e := 1"), PolicyHouse.FULL);
    same("a fifth one that is WRONG", d.module("package p e"), -1 - 11);
    same("four", d.h().count(0), 4);
    same("check", d.h().check() + " " + d.faults(), "0 0:-1@-1");
    same("activate", d.h().activate() + " " + d.h().count(1), "4 4");
    same("drop", d.h().drop() + " " + d.h().count(0) + " " + d.h().count(1), "4 0 4");
    same("drop again", d.h().drop(), 0);
    same("after it there is room", d.module("package z a := 1"), 1);
    same("drop", d.h().drop(), 1);
    same("check of an empty DRAFT", d.h().check(), 0);
    same("the rules are those of the ACTIVE bundle", d.h().rule(2, 1) + " " + d.h().rule(3, 1), "2 3");
    for (int n : NUMBERS) {
      same("fault " + n, d.h().fault(n), -1);
      if (n != 4) same("count " + n, n == 5 ? 0 : d.h().count(n), n == 5 ? 0 : -1);
      same("rule " + n, thrown(n, 0) + " " + thrown(n, n), "true true");
      if (n != 4) same("rule 0, " + n, d.h().rule(0, n), -1);
    }
    same("the last rule", thrown(3, 0), false);
    same("activate of an empty DRAFT", d.h().activate() + " " + d.h().count(1), "0 0");
    same("no rule any more", thrown(0, 0), true);
    // The kinds of all faults, negative by activate().
    String[] bad = {"a := 1 a contains 1", "a := b", "a if { x := 1; x := 2 }", "a if { {x} := 1 }", "a if { 1 with data.p as 1 }", "a := a",
      "a0(x) := 1 a1(x) := a0(1) a2(x) := a1(1) a3(x) := a2(1) a4(x) := a3(1) a5(x) := a4(1) a6(x) := a5(1) a7(x) := a6(1) a8(x) := a7(1) a9(x) := a8(1) b0(x) := a9(1) b1(x) := b0(1) b2(x) := b1(1)",
      "a if { some x; true }", "a := abs(\"x\")"};
    for (int kind = 1; kind <= 9; kind++) {
      ready(300, 20);
      d.h().drop();
      d.module("package p " + bad[kind - 1]);
      same("check of " + kind, d.h().check() + " " + d.h().fault(0) + " " + d.h().fault(1), kind + " " + kind + " 0");
      same("activate of " + kind, d.h().activate() + " " + d.h().fault(0), -kind + " " + kind);
    }
  }

  /** Promises 9 to 11: DATA, INPUT and what is refused. */
  private static void documents() {
    d = new Desk();
    same("DATA", d.data(" {\"a\":{\"b\":[1,2]},\"c\":\"xy\"} ") + " " + d.h().count(3), "14 14");
    String all = d.ask("x := data");
    String[] refused = {"", "[]", "null", "5", "\"a\"", "[{}]", "true"};
    for (String s : refused) same("DATA by " + s, d.data(s), s.isEmpty() ? -1 : PolicyHouse.FULL);
    same("DATA WRONG", d.data("{\"a\":}") + " " + d.data("{} x"), "-6 -4");
    same("it stays", d.ask("x := data") + d.h().count(3), all + 14);
    for (String s : new String[] {"{}", "null", "\"[]\"", "5", "true"}) same("a patch by " + s, d.patch(s), PolicyHouse.FULL);
    same("a patch WRONG", d.patch("[{]") + " " + d.patch("") + " " + d.patch("[] ]"), "-3 -1 -4");
    String[] undone = {"{\"op\":\"remove\",\"path\":\"/z\"}", "{\"op\":\"replace\",\"path\":\"\",\"value\":[]}", "{\"op\":\"add\",\"path\":\"\",\"value\":null}", "1", "{}",
      "{\"op\":\"remove\",\"path\":\"\"}", "{\"op\":\"remove\",\"path\":\"/a\"},{\"op\":\"test\",\"path\":\"/a\",\"value\":1}", "{\"op\":\"move\",\"from\":\"\",\"path\":\"/a\"}",
      "{\"op\":\"copy\",\"from\":\"/c\",\"path\":\"\"}"};
    for (String s : undone) {
      ready(s.length(), 10);
      same("a patch by " + s, d.patch("[" + s + "]"), PolicyHouse.FULL);
    }
    same("nothing happens", d.ask("x := data") + d.h().count(3), all + 14);
    same("an empty patch", d.patch(" [ ] "), 14);
    same("a patch", d.patch("[{\"op\":\"add\",\"path\":\"/a/b/-\",\"value\":[null]},{\"op\":\"move\",\"from\":\"/c\",\"path\":\"/d\"}]") + " " + d.h().count(3), "16 16");
    same("DATA", d.ask("x := data"), "[{\"a\":{\"b\":[1,2,[null]]},\"d\":\"xy\"}]");
    same("through what is no object", d.patch("[{\"op\":\"replace\",\"path\":\"\",\"value\":[1]},{\"op\":\"replace\",\"path\":\"\",\"value\":{\"e\":1}}]"), 4);
    same("DATA", d.ask("x := data"), "[{\"e\":1}]");
    // TOO GREAT: above 4000, or more than 20 deep, at any operation.
    String[][] patches = {{"[{\"op\":\"add\",\"path\":\"/f\",\"value\":\"X\"}]", "3993"}, {"[{\"op\":\"add\",\"path\":\"/f\",\"value\":\"X\"},{\"op\":\"remove\",\"path\":\"/f\"}]", "3993"}};
    for (String[] p : patches) {
      d = new Desk();
      d.data("{\"e\":1}");
      int most = Integer.parseInt(p[1]);
      boolean removed = p[0].contains("remove");
      same("DATA of 4000 by a patch", d.patch(p[0].replace("X", "x".repeat(most))), removed ? 4 : 4000);
      d = new Desk();
      d.data("{\"e\":1}");
      same("DATA of 4001 by a patch", d.patch(p[0].replace("X", "x".repeat(most + 1))), PolicyHouse.FULL);
      same("nothing happens", d.h().count(3), 4);
    }
    d = new Desk();
    same("an array of operations that is TOO GREAT", d.patch("[{\"op\":\"add\",\"path\":\"/f\",\"value\":\"" + "x".repeat(3996) + "\"}]"), 4000);
    d = new Desk();
    d.data("{\"a\":" + "[".repeat(11) + "]".repeat(11) + "}");
    String within = "[{\"op\":\"add\",\"path\":\"/a" + "/0".repeat(10) + "/0\",\"value\":";
    same("20 deep", d.patch(within + "[".repeat(8) + "]".repeat(8) + "}]"), 3 + 11 + 8);
    same("21 deep", d.patch("[{\"op\":\"move\",\"from\":\"/a\",\"path\":\"/b\"},{\"op\":\"add\",\"path\":\"/c\",\"value\":[]},{\"op\":\"move\",\"from\":\"/b\",\"path\":\"/c/0\"}]"), PolicyHouse.FULL);
    same("nothing happens", d.h().count(3), 22);
    // As many operations as a text has room for, on DATA that is heavy: one after the other.
    d = new Desk();
    d.data("{\"e\":0,\"h\":\"" + "x".repeat(1000) + "\"}");
    StringBuilder many = new StringBuilder("[");
    for (int i = 0; i < 60; i++) many.append(i > 0 ? "," : "").append("{\"op\":\"").append(i % 2 == 0 ? "replace" : "add").append("\",\"path\":\"/e\",\"value\":").append(i).append("}");
    same("60 operations", d.patch(many + "]"), 1 + 2 + 1 + 2 + 1001);
    same("the last one", d.ask("x := data.e"), "[59]");
    same("60 operations and one that can't be done", d.patch(many + ",{\"op\":\"test\",\"path\":\"/e\",\"value\":58}]"), PolicyHouse.FULL);
  }

  /** Promise 11: "it may be any value"; "an empty tape: there is none". */
  private static void inputs() {
    d = new Desk();
    String[][] inputs = {{"null", "1"}, {"false", "1"}, {"-1", "1"}, {"\"\"", "1"}, {"[]", "1"}, {"{}", "1"}, {"{\"a\":[1]}", "5"}};
    for (String[] in : inputs) {
      same("INPUT " + in[0], d.input(in[0]) + " " + d.h().count(4), in[1] + " " + in[1]);
      same("it", d.ask("x := input"), "[" + in[0] + "]");
      same("INPUT WRONG", d.input("[") + " " + d.input(" ") + " " + d.h().count(4), "-2 -2 " + in[1]);
      same("it stays", d.ask("x := input"), "[" + in[0] + "]");
    }
    same("no INPUT", d.input("") + " " + d.h().count(4), "0 0");
    same("there is none", d.ask("x := input"), "");
    d.input("7");
    for (int i = 0; i < 50; i++) d.h().feed(0x22787878, 0, 0, 0, 0);
    d.h().end(0);
    same("an empty tape", d.h().input() + " " + d.h().count(4), "0 0");
  }

  /** Promises 8, 12 to 14, 22: prepared QUERIES, and fault() of the latest call. */
  private static void queries() {
    d = new Desk();
    d.mods("package p a := 1");
    for (int i = 0; i < 4; i++) same("prepare", d.prepare("x := " + i) + " " + d.h().count(2), i + " " + (i + 1));
    same("WRONG, FAULT, FULL in this order", d.prepare("x := ") + " " + d.prepare("x := y") + " " + d.prepare("x := 1"), "-6 -7002 -10000");
    same("fault() of the one that was FULL", d.faults(), "0:-1@-1");
    d.prepare("true; x := y");
    same("fault() of prepare", d.faults(), "2:-1@11");
    same("a WRONG one leaves it", d.prepare("x") + " " + d.prepare("x :") + " " + d.faults(), "-7002 -3 2:-1@0");
    for (int n : NUMBERS) {
      same("release " + n, d.h().release(n), false);
      same("renew " + n, d.h().renew(n), -1);
      same("run " + n, d.h().run(n, true), -1);
      same("order " + n, d.h().order(n, 0) + " " + d.h().order(0, n), "-1 -1");
    }
    same("queries", d.h().count(2), 4);
    same("no RUN yet", d.h().about(0) + " " + d.h().about(2), "-1 -1");
    same("release", d.h().release(2) + " " + d.h().release(2) + " " + d.h().count(2), "true false 3");
    same("it is no more", d.h().run(2, false) + " " + d.h().renew(2) + " " + d.h().order(2, 0), "-1 -1 -1");
    same("release", d.h().release(0) + " " + d.h().count(2), "true 2");
    same("the least that is free", d.prepare("x := 10") + " " + d.prepare("x := 12") + " " + d.prepare("x := 13"), "0 2 -10000");
    String[] due = {"[10]", "[1]", "[12]", "[3]"};
    for (int q = 0; q < 4; q++) {
      same("run " + q, d.h().run(q, false), 1);
      same("result of " + q, d.out(d.h().result(0, 0)), due[q]);
    }
    // renew: 1; 0 less the kind of its FAULT: it stays as it is; NONE.
    d = new Desk();
    d.data("{\"k\":1}");
    d.mods("package p f(x) := [x, data.k]", "package q a if { data.q.b with input as 1 } b if { 1 with input as 2 }");
    same("prepare", d.prepare("x := data.p.f(5)"), 0);
    same("prepare", d.prepare("x := data.k with data.z as 1"), 1);
    same("prepare", d.prepare("x := data.k; true with input as [1 | data.q.a]"), 2);
    d.data("{\"k\":2}");
    same("DATA of before", runs(0), "[[5,1]]");
    same("renew", d.h().renew(0) + " " + runs(0), "1 [[5,2]]");
    d.mods("package p f(x) := [data.k, x]", "package z c := 1");
    d.data("{\"k\":3}");
    same("bundle and DATA of before", runs(0), "[[5,2]]");
    same("renew with a FAULT", d.h().renew(1) + " " + d.faults(), "-5 5:-1@17");
    same("it stays as it is", runs(1), "[1]");
    same("renew", d.h().renew(0) + " " + d.faults() + " " + runs(0), "1 0:-1@-1 [[3,5]]");
    d.mods("package q a if { data.q.b with input as 1 } b if { data.q.c with input as 1 } c if { 1 with input as 2 }");
    same("renew with FAULT 2", d.h().renew(0) + " " + d.faults() + " " + runs(0), "-2 2:-1@5 [[3,5]]");
    same("renew with three withs", d.h().renew(2), 1);
    same("renew to them", d.h().renew(1) + " " + runs(1), "1 [3]");
    d.prepare("x := data.q.a with input as 1");
    same("FAULT 7 by prepare", d.faults(), "7:-1@0");
    d.mods("package q a if { true }");
    same("prepare", d.prepare("true; data.q.a with input as 1"), 3);
    d.mods("package q a if { data.q.b with input as 1 } b if { data.q.c with input as 1 } c if { 1 with input as 2 }");
    same("renew with FAULT 7", d.h().renew(3) + " " + d.faults(), "-7 7:-1@6");
    same("it stays as it is", d.h().run(3, false), 1);
    same("covered of its bundle", d.h().covered(0) + " " + d.h().covered(1), "1 -1");
    d.mods();
    same("renew to an empty bundle", d.h().renew(3) + " " + d.h().run(3, false) + " " + d.h().covered(0), "1 0 -1");
  }

  private static String runs(int q) {
    int n = d.h().run(q, false);
    return n < 1 ? "" + n : d.out(d.h().result(0, 0));
  }

  /** Promises 15 to 20: the latest RUN, its RESULTS and DOCUMENTS, OUTPUT. */
  private static void runs() {
    d = new Desk();
    d.data("{\"n\":[5,6]}");
    d.mods("package p a := [data.n[0]] f(x) := x b := 1 if { false }");
    int q = d.prepare("x := data.n[_]; data.p.a; not data.p.b");
    int limit = d.prepare("x := numbers.range(1, 500); [1 | x[_]; x[_]]");
    int empty = d.prepare("false");
    same("RESULTS", d.h().run(q, false), 2);
    same("about", about(), "0 -1 " + (1 + 2 + 1 + 2 + 4 + 2 * 2) + " 2");
    for (int n : NUMBERS) {
      same("about " + n, d.h().about(n), -1);
      if (n != -1) same("covered " + n, d.h().covered(n), -1);
      same("document " + n, d.h().document(n), -1);
      same("output " + n, d.h().output(n), -1);
      same("result " + n, d.h().result(n, 0) + " " + d.h().result(0, n), "-1 -1");
    }
    same("nothing is in OUTPUT", d.h().count(6) + " " + d.h().output(0), "0 -1");
    same("covered", d.h().covered(-1) + " " + d.h().covered(0) + " " + d.h().covered(1) + " " + d.h().covered(2) + " " + d.h().covered(3), "5 0 0 1 -1");
    same("RESULT 0", d.out(d.h().result(0, 0)) + d.h().count(6), "[5]3");
    same("RESULT 1", d.out(d.h().result(1, 1)) + d.h().output(3), "[6]-1");
    same("there is none such", d.h().result(2, 0) + " " + d.h().result(-1, 0) + " " + d.h().result(0, 2) + " " + d.h().result(0, -1), "-1 -1 -1 -1");
    same("nothing happens", d.out(3), "[6]");
    same("DOCUMENT", d.out(d.h().document(0)), "[5]");
    same("no DOCUMENT", d.h().document(1) + " " + d.h().document(2) + " " + d.h().document(3) + " " + d.h().document(-1), "-1 -1 -1 -1");
    same("nothing happens", d.out(3), "[5]");
    // The latest RUN stays, whatever comes between.
    d.data("{\"n\":[7,8,9]}");
    d.input("[1]");
    d.patch("[{\"op\":\"add\",\"path\":\"/m\",\"value\":1}]");
    d.mods("package z q := 1 r := 2 s := 3 t := 4");
    d.h().release(q);
    d.prepare("x := 1");
    same("a RUN of none", d.h().run(3, false), -1);
    same("about", d.h().about(0) + " " + d.h().about(3), "0 2");
    same("covered", d.h().covered(2) + " " + d.h().covered(3), "1 -1");
    same("RESULT 1", d.out(d.h().result(1, 0)), "[6]");
    same("DOCUMENT", d.out(d.h().document(0)), "[5]");
    same("DATA of the latest RUN's QUERY", d.h().count(3), 1 + 2 + 4 + 2 + 1);
    // By LIMIT.
    same("LIMIT", d.h().run(limit, false), -104);
    same("about", about(), "4 -1 40000 0");
    same("nothing else", d.h().covered(-1) + " " + d.h().covered(0) + " " + d.h().document(0) + " " + d.h().result(0, 0), "-1 -1 -1 -1");
    same("nothing happens", d.out(3), "[5]");
    same("no RESULTS", d.h().run(empty, true), 0);
    same("about", about(), "0 -1 1 0");
    same("covered", d.h().covered(-1) + " " + d.h().result(0, 0), "1 -1");
    // STRICT or not, by each RUN.
    int strict = d.prepare("not max(input)");
    d.input("[]");
    same("plain", d.h().run(strict, false) + " " + about(), "1 0 -1 3 1");
    same("STRICT", d.h().run(strict, true) + " " + about(), "-103 3 8 3 0");
    same("plain again", d.h().run(strict, false) + " " + about(), "1 0 -1 3 1");
  }

  /** What a QUERY, or the latest RUN, keeps stays while DATA and INPUT are others: all at once. */
  private static void kept() {
    d = new Desk();
    for (int q = 0; q < 4; q++) {
      d.data("{\"q\":[" + q + "]}");
      same("prepare", d.prepare("x := data.q"), q);
    }
    for (int i = 0; i < 4; i++) {
      d.data("{\"q\":[" + (10 + i) + "]}");
      d.input("[" + i + "]");
    }
    for (int q = 0; q < 4; q++) same("DATA of QUERY " + q, runs(q), "[[" + q + "]]");
    // The latest RUN's DATA and INPUT are of a QUERY that is no more; four others have their own.
    d.data("{\"r\":[\"run\"]}");
    d.input("[\"in\"]");
    d.h().release(3);
    same("prepare", d.prepare("x := [data.r, input]"), 3);
    same("run", d.h().run(3, false), 1);
    d.h().release(3);
    d.data("{\"q\":[3]}");
    same("prepare", d.prepare("x := data.q"), 3);
    for (int i = 0; i < 3; i++) {
      d.data("{\"s\":[" + i + ",\"data\"]}");
      d.input("[" + i + ",\"input\"]");
      same("its RESULT", d.out(d.h().result(0, 0)), "[[[\"run\"],[\"in\"]]]");
    }
    same("DATA", d.h().count(3) + " INPUT " + d.h().count(4), "10 INPUT 8");
    same("a patch", d.patch("[{\"op\":\"add\",\"path\":\"/s/0\",\"value\":[5]},{\"op\":\"add\",\"path\":\"/s/0\",\"value\":{}},{\"op\":\"remove\",\"path\":\"/s/2\"}]"), 12);
    same("its RESULT", d.out(d.h().result(0, 0)), "[[[\"run\"],[\"in\"]]]");
    for (int q = 0; q < 4; q++) same("DATA of QUERY " + q, runs(q), "[[" + q + "]]");
    d.h().release(3);
    same("INPUT and DATA", d.ask("x := [data.s, input]"), "[[[{},[5],\"data\"],[2,\"input\"]]]");
    // A bundle for which the QUERY is longer.
    d = new Desk();
    d.mods("package p a := 1");
    d.prepare("x := data.p.a with input as 1 with data.k as 2; y := [z | z := data.p.a with input as 3]");
    d.mods("package p a := 1 b := 2 " + "c contains 1 ".repeat(3), "package q " + "r if { 1 } ".repeat(2) + names(70));
    same("renew to 75 rules", d.h().renew(0) + " " + d.h().count(1) + " " + runs(0), "1 74 [1,[1]]");
    d.mods("package p a := 5");
    same("renew to one", d.h().renew(0) + " " + runs(0), "1 [5,[5]]");
  }

  private static String names(int n) {
    StringBuilder s = new StringBuilder();
    for (int i = 0; i < n; i++) s.append("n").append(i).append(":=1 ");
    return s.toString();
  }

  private static String about() {
    return d.h().about(0) + " " + d.h().about(1) + " " + d.h().about(2) + " " + d.h().about(3);
  }

  /** "NONE, and nothing happens, if .. of form 1, its JSON would have more than 100000 bytes". */
  private static void longest() {
    // A string of " that is a key of a key of a key ..: each level doubles what is ahead of each ".
    String json = "\"" + "\\\"".repeat(188) + "\"";
    String print = json;
    StringBuilder q = new StringBuilder("r := [{a8: 1} | a0 := `" + "\"".repeat(188) + "`; ");
    for (int i = 1; i < 10; i++) {
      if (i < 9) q.append("a").append(i).append(" := {a").append(i - 1).append(": 1}; ");
      json = "{" + (i == 1 ? json : "\"" + json.replace("\\", "\\\\").replace("\"", "\\\"") + "\"") + ":1}";
      print = "{" + print + ":1}";
    }
    String text = q + "true]; s := input";
    json = "[[" + json + "],\"";
    int rest = 100000 - json.length() - 2;
    same("the test's own length", rest > 0 && rest < 3500, true);
    for (int more = -1; more <= 1; more++) {
      d = new Desk();
      d.input("\"" + "x".repeat(rest + more) + "\"");
      same("run", d.number(text), "1");
      int printed = d.h().result(0, 0);
      same("PRINT", printed, ("[[" + print + "],\"").length() + rest + more + 2);
      same("JSON of " + (100000 + more), d.h().result(0, 1), more > 0 ? -1 : 100000 + more);
      same("OUTPUT", d.h().count(6), more > 0 ? printed : 100000 + more);
      same("its last bytes", "" + (char) d.h().output(d.h().count(6) - 1) + d.h().output(d.h().count(6)), "]-1");
      for (int i = 0; i < 60 && more == 0; i++) same("byte " + i, d.h().output(i), (int) json.charAt(i));
    }
  }

  /** "An object is used for at most 512 calls": all of them answer. */
  private static void calls() {
    d = new Desk();
    for (int i = 0; i < 256; i++) same("feed " + i, d.h().feed(i, i, i, i, i) + " " + d.h().end(0), "true true");
    d = new Desk();
    for (int i = 0; i < 512; i++) same("feed " + i, d.h().feed(-1, -1, -1, -1, -1), i < 300);
    // New names and strings in each text.
    d = new Desk();
    for (int i = 0; i < 85; i++) {
      same("prepare", d.prepare("n" + i + " := \"s" + i + "\""), 0);
      same("run", d.h().run(0, false), 1);
      same("result", d.h().result(0, 0), 4 + ("s" + i).length());
      d.h().release(0);
    }
    d = new Desk();
    for (int i = 0; i < 85; i++) {
      same("module", d.module("package n" + i + " r" + i + " := 1"), 1);
      same("activate", d.h().activate(), 1);
      same("drop", d.h().drop(), 1);
      same("rules", d.h().count(1), 1);
    }
    d = new Desk();
    for (int i = 0; i < 102; i++) {
      same("data", d.data("{\"k" + i + "\":[" + i + "]}"), 1 + 1 + ("k" + i).length() + 2);
      same("input", d.h().input() + " " + d.h().count(3), "0 " + (4 + ("k" + i).length()));
    }
    // What a RUN makes is no more in the next one.
    d = new Desk();
    d.prepare("x := [1 | some z in numbers.range(1, 500); numbers.range(1, z % 7 + 10)]");
    for (int i = 0; i < 240; i++) same("run " + i, d.h().run(0, false), 1);
    d = new Desk();
    d.prepare("x := numbers.range(1, 500); y := [1 | x[_]; x[_]]");
    d.prepare("x := numbers.range(1, 500)");
    for (int i = 0; i < 125; i++) {
      same("LIMIT", d.h().run(0, true), -104);
      same("run", d.h().run(1, true), 1);
      same("result", d.h().result(0, i % 2), 1895);
      same("FUEL", d.h().about(2), 1 + 2 + 501 + 502);
    }
  }

  public static void main(String[] args) {
    constants();
    fresh();
    tape();
    emptied();
    drafts();
    documents();
    inputs();
    queries();
    runs();
    kept();
    longest();
    calls();
    Desk.end("promises");
  }
}
