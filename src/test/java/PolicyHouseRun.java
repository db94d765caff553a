// Promises 12 to 20 and 23: ways, documents, THE TREE, with, fuel, what is noted and kept.
public final class PolicyHouseRun {
  private static Desk d = new Desk();

  private static void same(String q, String due) {
    Desk.same(q, d.ask(q), due);
  }

  /** Results and the fuel that they take. */
  private static void same(String q, String due, int fuel) {
    same(q, due);
    Desk.same("fuel of " + q, d.h().about(2), fuel);
  }

  private static void house(String data, String input, String... mods) {
    d = new Desk();
    Desk.same("data " + data, d.data(data) > 0, true);
    if (input != null) Desk.same("input " + input, d.input(input) > 0, true);
    if (mods.length > 0) Desk.same("modules", d.mods(mods).matches("[0-9]+"), true);
  }

  private static void ways() {
    house("{\"a\":[1,2,3],\"o\":{\"x\":1,\"y\":2},\"n\":{\"m\":{\"k\":1}}}", null);
    same("true", "[]", 2);
    same("0", "[]", 2);
    same("null", "[]", 2);
    same("false", "", 1);
    same("x := 1; y := x", "[1,1]", 5);
    same("x := data.a[_]; x > 1", "[2] [3]", 1 + 3 + 3 * (1 + 3) + 2 * 2);
    same("some i; data.a[i] == 2", "[1]", 2 + 3 + 9 + 2);
    same("data.a[i] == 2; some i", "[1]", 1 + 3 + 9 + 1 + 2);
    same("some i, v in data.a; v != 2", "[0,1] [2,3]", 1 + 3 + 3 * 4 + 2 * 3);
    same("some k, v in data.o", "[\"x\",1] [\"y\",2]", 1 + 2 + 2 * 4);
    same("some v in data.o", "[1] [2]", 1 + 2 + 2 * 2);
    same("some v in 5", "", 1);
    same("some k, [v, _] in {\"a\": [1, 2], \"b\": [3], \"c\": 4}", "[\"a\",1]", 1 + 3 + 2 + 13 + 3 + 4);
    same("[x, y] := [1, 2, 3]", "", 1 + 4);
    same("{\"a\": x, \"a\": y} := {\"a\": 1}", "[1,1]", 1 + 4 + 2 + 3);
    same("{\"a\": x} := {\"a\": 1, \"b\": 2}", "", 1 + 7 + 1);
    same("{\"c\": x, \"a\": y} := {\"a\": 1, \"b\": 2}", "", 1 + 7 + 1);
    same("{} := {}; [] := []", "[]", 1 + 1 + 1 + 1 + 1);
    same("[] := {}", "", 2);
    same("{{1, 2}: x} := {{2, 1}: 5}", "[5]", 1 + 3 + 5 + 3 + 1 + 2);
    same("[1, set()] := [1, set()]", "[]", 1 + 1 + 3 + 1 + 1);
    same("some x; [x, 2] = [1, 2]", "[1]", 2 + 3 + 2);
    same("x := 2; x = data.a[_]", "[2]", 2 + 3 + 2);
    same("x := 2; data.a[_] = x; data.a[_] > x", "[2]", 2 + 3 + 1 + 3 + 9 + 2);
    same("x := [1, 2]; x = [1, _]", "[[1,2]]", 2 + 3 + 4);
    house("{\"a\":[1,2,3],\"o\":{\"x\":1,\"y\":2},\"n\":{\"m\":{\"k\":1}}}", null);
    same("x := data.a[_] + data.a[_]", "[2] [3] [4] [5] [6]", 1 + 3 + 9 * (1 + 3 + 2));
    same("not data.a[_] == 5", "[]", 1 + 3 + 9 + 1);
    same("not data.a[_] == 2", "", 1 + 3 + 9);
    same("not data.zz", "[]", 2);
    same("not false", "[]", 2);
    same("not null", "", 1);
    same("every x in data.a { x < 5 }", "[]", 1 + 3 * 4 + 1);
    same("every x in data.a { x != 1 }", "", 1 + 3 * 4);
    same("every i, x in data.a { x == i + 1 }", "[]", 1 + 3 * 7 + 1);
    same("every x in [] { false }", "[]", 1 + 1 + 1);
    same("every x in 5 { true }", "", 1);
    same("every x in data.n.m { data.a[_] == x }", "[]", 1 + 1 + 3 + 9 + 1);
    same("x := data.a[_]; every y in data.a { y <= x }", "[3]", 1 + 3 + 3 * (1 + 3 * 4) + 2);
    same("x := [i | some i; data.a[i] > 1]", "[[1,2]]", 1 + 2 + 3 + 9 + 3 + 4);
    same("x := [data.a[_] | true]", "[[1,2,3]]", 1 + 1 + 3 + 4 + 5);
    same("x := {v: k | some k, v in data.o}", "[{1:\"x\",2:\"y\"}]", 1 + 1 + 2 + 7 + 8);
    same("x := {1: k | some k, _ in data.o}", "", 1 + 1 + 2);
    same("x := {y | y := 1; false}", "[set()]", 1 + 2 + 1 + 2);
    same("x := [y | some y in [z | some z in data.a; z > 1]]", "[[2,3]]", 1 + 1 + 1 + 3 + 3 * 4 + 3 + 2 + 3 + 4);
    same("x := data.o.x", "[1]", 3);
    same("s := {1, \"a\"}; x := s[_]", "[{1,\"a\"},1] [{1,\"a\"},\"a\"]", 1 + 4 + 1 + 2 + 6 + 7);
    same("s := {1, \"a\"}; x := s[1]", "[{1,\"a\"},1]", 1 + 4 + 1 + 6);
    same("s := [5]; x := s[1]", "", 1 + 2 + 1);
    same("r := 1; s := {\"a\": [5]}; x := s.a[0]", "[1,{\"a\":[5]},5]");
    same("x := [[y | y := z] | some z in [1, 2]]", "[[[1],[2]]]");
    same("x := [w | some z in [1, 2]; w := {y | some y in [z, 3]}; every v in w { [u | u := v] != [4] }]", "[[{1,3},{2,3}]]");
    same("s := [5]; x := s[0.5]", "", 1 + 2 + 1);
    same("s := [5]; x := s[\"0\"]", "", 1 + 2 + 1);
    same("some x, y; data.o[x]; data.a[y] == data.o[x]", "[\"x\",0] [\"y\",1]", 1 + 1 + 2 + 2 * (1 + 3 + 9) + 2 * 4);
    same("x := data", "[{\"a\":[1,2,3],\"n\":{\"m\":{\"k\":1}},\"o\":{\"x\":1,\"y\":2}}]", 1 + 26);
    same("x := input", "", 1);
    same("x := data.a.b", "", 1);
    same("x := 1 / 0; y := data.a[_]", "", 1 + 2);
  }

  private static final String MODULE = "package a.b\nimport data.conf as c\nimport input.user as u\n"
      + "x := c.k if { u.n > 1 }\ndefault y := {\"p\": [1, 2]}\ny := 3 if { input.z }\n"
      + "f(1) := \"one\"\nf(w) := \"many\" if { w > 1 } else := \"few\" if { w < 0 }\n"
      + "s contains v if { some v in c.list }\ns contains 7 if { input.z }\n"
      + "o[k] := v if { some k, v in c.obj }\nnone := 1 if { false }\n";

  private static final String TREE = "{\"conf\":{\"k\":5,\"list\":[1,2,2],\"obj\":{\"a\":1,\"b\":2}},\"a\":{\"q\":1,\"b\":{\"z\":9,\"f\":1,\"none\":4,\"x\":8}}}";

  private static void tree() {
    house(TREE, "{\"user\":{\"n\":2}}", MODULE);
    int made = 4 + 1 + (1 + 3 + 1 + 3) + (1 + 2 + 7) + 1;
    String object = "{\"o\":{\"a\":1,\"b\":2},\"s\":{1,2},\"x\":5,\"y\":{\"p\":[1,2]},\"z\":9}";
    int weight = 1 + 2 + 7 + 2 + 3 + 2 + 1 + 2 + 6 + 2 + 1;
    Desk.same("weight", made + weight, 24 + 29);
    same("x := data.a.b", "[" + object + "]", made + 1 + weight + weight + 1);
    same("x := data.a", "[{\"b\":" + object + ",\"q\":1}]", made + 1 + 2 * (weight + 6) + 1);
    same("some k; data.a.b[k]", "[\"o\"] [\"s\"] [\"x\"] [\"y\"] [\"z\"]", made + 2 + 5 + 5 * 3);
    same("x := data.a[_].z", "[9]", made + 1 + 2 + 2);
    same("some k; x := data[k].b.y", "[\"a\",{\"p\":[1,2]}]", made + 2 + 2 + 9);
    same("x := data.a.b.f", "", 1);
    same("x := data.a.b.none", "", 1 + 1);
    same("x := data.a.b.s[2]; y := data.a.b.s[_]", "[2,1] [2,2]", 8 + 2 + 2 + 6);
    same("x := data.a.b.y.p[1]", "[2]", 1 + 1 + 2);
    same("x := data.a.b.f(1)", "[\"one\"]", 1 + 1 + 4 + 4 + 5);
    same("x := data.a.b.f(7)", "[\"many\"]");
    same("x := data.a.b.f(-7)", "[\"few\"]");
    same("x := data.a.b.f(0)", "", 1 + 1 + 4 + 4);
    house(TREE, "{\"user\":{\"n\":2}}", MODULE);
    same("x := data.a.b.x with input.user.n as 1", "", 1 + 100 + 10 + 4);
    same("x := data.a.b.x with input.user.n as 3 with data.conf.k as 77", "[77]", 1 + 100 + 10 + 24 + 4 + 2);
    same("x := data.a.b.y with input.z as {1}", "[3]", 1 + 2 + 100 + 14 + 1 + 2);
    same("x := data.a.b.f with data.a.b.f as 5", "[5]", 1 + 100 + 2);
    same("x := data.a.b.f(1) with data.a.b.f as 5", "[\"one\"]");
    same("x := data.a.b.s with data.a.b.s as 5", "[5]", 1 + 100 + 2);
    same("x := data.conf with data.conf.k.m as 5 with data.conf.k.n as 6", "[{\"k\":{\"m\":5,\"n\":6},\"list\":[1,2,2],\"obj\":{\"a\":1,\"b\":2}}]");
    same("x := data.a.b.zz with data.a.b.zz as 1", "[1]");
    same("x := data.a.b.zz; true with data.a.b.zz as 1", "");
    same("true with input as 1; x := input", "[{\"user\":{\"n\":2}}]");
    same("x := input with input.a.b as 1", "[{\"a\":{\"b\":1},\"user\":{\"n\":2}}]");
    same("x := input.user with input.user as 1 with input.user.y as 2", "[{\"y\":2}]");
    same("x := input.user with input.user.y as 2 with input.user as 1", "[1]");
    same("x := data.d with data.d.e as 2 with data.d as 1", "[1]");
    same("x := data.d with data.d as 1 with data.d.e as 2", "[{\"e\":2}]");
    same("x := [y | y := data.a.b.y; y == 3] with input.z as 1", "[[3]]");
    same("y := 3; x := data.a.b.y with input.z as y", "[3,3]");
    same("x := input with input as {\"a\": data.conf.list[_]}", "[{\"a\":1}] [{\"a\":2}]");
    same("not data.a.b.x with input as null", "[]");
    same("every v in input { v > 1 } with input as [2, 3]", "[]");
    same("some v in input with input as {1: 2}", "[2]");
    d = new Desk();
    d.data("{\"n\":{\"k\":1}}");
    same("x := data with data.n as 1 with data.new.b as 2", "[{\"n\":1,\"new\":{\"b\":2}}]", 1 + 100 + 1 + 4 + 12 + 13);
    same("x := data", "[{\"n\":{\"k\":1}}]", 1 + 8);
    same("x := data[_] with data.n.k as {3}", "[{\"k\":{3}}]", 1 + 2 + 100 + 5 + 1 + 6);
  }

  /** Rules and functions with many variables, and calls within calls. */
  private static void variables() {
    house("{}", null, "package p\nf(a, [b, c], {\"k\": e}, g) := [a, b, c, e, g, h] if { h := a + b + c + e + g }\n"
        + "v := [a, b, c, e, g, h] if { a := 1; b := a + 1; c := b * b; e := [x | some x in [a, b, c]; x > 1]; g := e[i]; some i; h := {i: g} }\n"
        + "w(x) := (x * 2)\nu(x) := (w(w(x)) + w(x))\nt := [u(a) + w(b), c] if { some a, b in [5, 6]; c := [w(z) | some z in [a, b]] }\n");
    same("x := data.p.f(1, [2, 3], {\"k\": 4}, 5)", "[[1,2,3,4,5,15]]");
    same("x := data.p.f(1, [2], {\"k\": 4}, 5)", "");
    same("x := data.p.f(1, [2, 3], {\"k\": 4, \"l\": 5}, 5)", "");
    same("x := data.p.t", "-101");
    same("x := data.p.v", "-101");
    same("x := [data.p.u(1), data.p.u(data.p.u(2))]", "[[6,72]]");
  }

  /** More rules than one word of bits has. */
  private static void many() {
    String m = "package m\n";
    for (int i = 0; i < 70; i++) m += "r" + i + " := " + (i < 35 ? i + "" : "[r" + (i - 35) + "]") + "\n";
    house("{}", null, m);
    same("x := data.m.r69", "[[34]]");
    same("x := data.m.r35", "[[0]]");
    same("x := count(data.m)", "[70]");
    same("x := data.m.r69 with data.m.r34 as 5", "[[5]]");
    same("x := data.m.r40; y := data.m.r66 with data.m.r31 as 7", "[[5],[7]]");
    Desk.same("documents", d.out(d.h().document(5)) + d.out(d.h().document(40)) + d.out(d.h().document(66)), "5[5]none");
    Desk.same("depends", d.h().rule(69, 4) + " " + d.h().rule(34, 4), "1 0");
  }

  /** Names that are beginnings of others, and such as a table may take for one another. */
  private static void alike() {
    String[] names = {"k", "kbvz", "ksxk", "ab", "abkvj", "aab", "rbo", "aaa", "rbp", "a", "aa", "b", "ba", "A", "_", "_a"};
    for (int turn = 0; turn < 2; turn++) {
      StringBuilder data = new StringBuilder("{");
      String m = "package m\n";
      for (int i = 0; i < names.length; i++) {
        String name = names[turn == 0 ? i : names.length - 1 - i];
        data.append(i > 0 ? "," : "").append("\"").append(name).append("\":").append(i);
        if (!name.equals("_")) m += name + " := [" + i + "]\n";
      }
      house("{\"d\":" + data + "}}", null, m);
      for (int i = 0; i < names.length; i++) {
        String name = names[turn == 0 ? i : names.length - 1 - i];
        same("x := data.d." + name, "[" + i + "]");
        same("x := data.m." + name, name.equals("_") ? "" : "[[" + i + "]]");
      }
    }
  }

  private static void nested() {
    house("{\"d\":1}", null, "package p\nv := data.d\nw if { v == 2 }\nt contains x if { x := v with data.d as 3 }\n"
        + "t contains x if { x := w with data.d as 2 }\nu if { t[3] with data.p.v as 9 }\n");
    same("x := data.p.t", "[{true,3}]");
    same("x := data.p.u", "");
    same("x := data.p.t with data.p.v as 2", "[{true,2}]");
    same("x := data.p.t with data.d as 5", "[{true,3}]");
    same("x := data.p.v; y := data.p.v with data.d as 4", "[1,4]");
    same("x := data.p.v; y := data.p.v with data.d as data.p.v", "[1,1]");
    same("x := [data.p.v, y]; y := data.p.v with data.d as 6", "[[1,6],6]");
    same("some z in [7, 8]; x := data.p.v with data.d as z", "[7,7] [8,8]");
    Desk.same("covered", d.h().covered(0) + " " + d.h().covered(1) + " " + d.h().covered(-1) + " " + d.h().covered(4) + " " + d.h().covered(-2), "0 0 3 -1 -1");
    same("x := data.p.t", "[{true,3}]");
    Desk.same("covered in all scopes", d.h().covered(1) + " " + d.h().covered(2) + " " + d.h().covered(-1), "1 2 1");
    Desk.same("documents", d.out(d.h().document(0)) + d.out(d.h().document(1)) + d.out(d.h().document(2)) + d.out(d.h().document(3)) + d.out(d.h().document(4)), "nonenone{true,3}nonenone");
    same("some x; data.p[x]", "[\"t\"] [\"v\"]");
    Desk.same("documents", d.out(d.h().document(0)) + d.out(d.h().document(1)) + d.out(d.h().document(2)) + d.out(d.h().document(3)), "1none{true,3}none");
    Desk.same("document of none", d.h().document(-1) + d.h().document(9), -2);
    Desk.same("output stays", d.out(8).substring(0, 8), "{true,3}");
  }

  private static void noted() {
    house("{\"d\":1}", null, "package p\na := 1\na := 2\nb := 1\nb := 1.0\no[1] := 1\no[1] := 2\nf(x) := x\nf(x) := 2\n"
        + "default g := {1: 2, 1: 3}\nh := 1 if { false } else := x if { some x in [1, 2] } else := 3\nc := 1 if { data.d == 1 } else := 2\nc := 2 if { data.d == 2 } else := 1\n"
        + "k(1) := \"a\" if { false } else := \"b\"\nk(3) := \"c\"\n");
    same("x := data.p.b", "[1]");
    same("x := data.p.a", "-101");
    Desk.same("about", d.h().about(0) + " " + d.h().about(1) + " " + d.h().about(3) + " " + d.h().about(4) + " " + d.h().about(-1), "1 0 0 -1 -1");
    Desk.same("no results", d.h().result(0, 0), -1);
    Desk.same("covered", d.h().covered(-1), 1);
    same("x := data.p.o", "-101");
    Desk.same("about", d.h().about(1), 2);
    same("x := data.p.f(2)", "[2]");
    same("x := data.p.f(3)", "-101");
    Desk.same("about", d.h().about(1), 3);
    same("x := data.p.g", "");
    Desk.same("about", d.h().about(0) + " " + d.h().about(1), "0 -1");
    same("x := data.p.k(1)", "[\"b\"]");
    same("x := data.p.k(2)", "");
    same("x := data.p.k(3)", "[\"c\"]");
    same("x := data.p.h", "-101");
    same("x := data.p.c", "[1]");
    same("x := data.p", "-101");
    Desk.same("the least", d.h().about(1), 0);
    Desk.same("in a plain run", d.ask("x := to_number(\"a\")", false), "");
    Desk.same("about", d.h().about(0), 0);
    Desk.same("in a strict run", d.ask("y := [x | x := to_number(\"a\")]; z := hex.decode(\"1\")", true), "-103");
    Desk.same("about", d.h().about(0) + " " + d.h().about(1), "3 30");
    Desk.same("conflict first", d.ask("x := data.p.a; y := 1", true), "-101");
    same("x := numbers.range(1, 500); y := [x, x, x, x, x, x, x, x]", "-102");
    Desk.same("about", d.h().about(0) + " " + d.h().about(1) + " " + d.h().about(2), "2 -1 " + (1 + 2 + 501 + 1 + 4000));
    same("x := numbers.range(1, 500); a := x; b := x; c := x; e := x; f := x; g := x; h := x", "-102");
    same("x := [1 | some y in numbers.range(1, 500); some z in numbers.range(1, 500)]", "-104");
    Desk.same("about", d.h().about(0) + " " + d.h().about(1) + " " + d.h().about(2) + " " + d.h().about(3), "4 -1 40000 0");
    Desk.same("nothing by LIMIT", d.h().covered(-1) + d.h().document(0) + d.h().result(0, 0), -3);
  }

  private static void great(String q, String due, int fuel, String... mods) {
    d = new Desk();
    if (mods.length > 0) Desk.same("modules", d.mods(mods), mods[0].contains("f(") ? "2" : "1");
    String short_ = q.length() > 60 ? q.substring(0, 60) : q;
    Desk.same(short_, d.ask(q), due);
    Desk.same("fuel of " + short_, d.h().about(2), fuel);
  }

  /** What is TOO GREAT: constants, defaults, results, what with makes. */
  private static void greats() {
    String big = "\"" + "x".repeat(4000) + "\"";
    String fit = "\"" + "x".repeat(3999) + "\"";
    great("x := " + big, "-102", 1);
    great("x := " + fit, "-102", 1 + 4000);
    great("count(" + fit + ") == 3999", "[]", 1 + 4000 + 1 + 2 + 1 + 1);
    great("not " + big, "-102", 2);
    great("x := [1 / 0, " + big + "]", "", 1 + 2);
    great("x := [" + big + ", 1 / 0]", "-102", 1);
    great("x := data.p.a", "-102", 1, "package p\ndefault a := " + big);
    great("x := data.p.a", "", 1, "package p\ndefault a := [{1: 2, 1: 3}, " + big + "]");
    great("x := data.p.a", "-102", 1, "package p\ndefault a := [" + fit + "]");
    great("x := data.p.f(1)", "-102", 1 + 1 + 4 + 2, "package p\na := 1\nf(" + big + ") := 1\nf(x) := 2 if { x == 1 }");
    d = new Desk();
    d.input("{\"a\":\"" + "x".repeat(2000) + "\"}");
    same("x := 1 with input.b as input.a with input.c as 1", "-102", 1 + 100 + 4000);
    same("x := count(input) with input.b as 1", "[2]", 1 + 100 + 2007 + 2007 + 1 + 2);
    same("x := count(data.z) with data.z.b as input.a with data.z.c as input.a", "[2]", 1 + 100 + 2004 + 4000 + 4007 + 1 + 2);
    same("x := data.z with data.z.b as input.a with data.z.c as input.a", "-102", 1 + 100 + 2004 + 4000 + 4000);
    same("x := count(data) with data.z.b as input.a with data.z.c as input.a", "-102", 1 + 100 + 2004 + 4000 + 4000);
    same("true with data.z.b as input.a with data.z.c as input.a", "[]", 1 + 100 + 2004 + 4000 + 1);
    same("x := json.patch({}, [{\"op\": \"add\", \"path\": \"/a\", \"value\": 1}, {\"op\": \"add\", \"path\": \"/b\", \"value\": 2}])",
        "[{\"a\":1,\"b\":2}]", 1 + 1 + 2 * 23 + 47 + 1 + 47 + 4 + 7 + 7 + 8);
  }

  /** The bytes of an array of 1 to 500. */
  private static final int ROW = 9 + 90 * 2 + 401 * 3 + 500 + 1;

  /** Fuel may be taken up to 40000: here 13 * 3076 + more. */
  private static void limit() {
    d = new Desk();
    String seven = "x := numbers.range(1, 500); y := [z | some z in x]; ";
    int one = 1 + 2 + 501 + 1 + 1 + 500 + 501;
    Desk.same("half the fuel", d.begin(seven + "true", 6), 2 * ROW + 3 + " [[1,2,");
    Desk.same("its fuel", d.h().about(2), one + 1 + 1003);
    int left = 40000 - one - 1003;
    int each = 1 + 501 + 501 + 1;
    int times = left / each;
    String some = "";
    for (int i = 0; i < times; i++) some += "x==x;";
    int rest = left - times * each;
    String ones = "";
    for (int i = 0; i < rest / 4; i++) ones += "1==1;";
    for (int i = 0; i < rest % 4; i++) ones += "1;";
    Desk.same("all fuel", d.number(seven + some + ones), "1");
    Desk.same("its fuel", d.h().about(2), 40000);
    Desk.same("no limit", d.h().about(0), 0);
    d = new Desk();
    Desk.same("one more", d.ask(seven + some + ones + "1"), "-104");
  }

  private static void forms() {
    house("{}", null);
    int q = d.prepare("some x in [{1: set(), {2}: \"\\u0001\\\"\"}, [\"\u00ff\"]]");
    Desk.same("run", d.h().run(q, true), 2);
    Desk.same("results", d.h().about(3), 2);
    Desk.same("print", d.out(d.h().result(0, 0)), "[[\"\u00ff\"]]");
    Desk.same("print", d.out(d.h().result(1, 0)), "[{1:set(),{2}:\"\\u0001\\\"\"}]");
    Desk.same("bytes", d.h().count(6), d.out(d.h().result(1, 0)).length());
    Desk.same("json", d.out(d.h().result(1, 1)), "[{\"1\":[],\"[2]\":\"\\u0001\\\"\"}]");
    Desk.same("no such", d.h().result(2, 0) + d.h().result(-1, 0) + d.h().result(0, 2) + d.h().result(0, -1), -4);
    Desk.same("output stays", d.h().output(0) + " " + d.h().output(-1) + " " + d.h().output(d.h().count(6)), "91 -1 -1");
    d.data("{\"x\":1}");
    d.input("{\"y\":1}");
    Desk.same("results stay", d.out(d.h().result(0, 0)), "[[\"\u00ff\"]]");
    Desk.same("results of the latest run", d.ask("x := [data, input]"), "[[{\"x\":1},{\"y\":1}]]");
    q = d.prepare("a := {{{{{{1: 1}: 1}: 1}: 1}: 1}: 1}; b := {{{{{{a: 1}: 1}: 1}: 1}: 1}: 1}; c := {{{{{{b: 1}: 1}: 1}: 1}: 1}: 1}");
    Desk.same("run", d.h().run(q, true), 1);
    Desk.same("print", d.h().result(0, 0) > 100, true);
    int bytes = d.h().count(6);
    Desk.same("json too long", d.h().result(0, 1), -1);
    Desk.same("nothing happens", d.h().count(6), bytes);
  }

  private static void kept() {
    d = new Desk();
    d.mods("package v\nx := \"old\"");
    Desk.same("prepare", d.prepare("y := [data.v.x, data.k]"), 0);
    d.data("{\"k\":1}");
    d.mods("package v\nx := \"new\" if { data.k == 1 }");
    Desk.same("its DATA has no k", d.h().run(0, false), 0);
    Desk.same("covered is of its bundle", d.h().covered(0), 0);
    Desk.same("renew", d.h().renew(0), 1);
    Desk.same("run", d.h().run(0, false), 1);
    Desk.same("result", d.out(d.h().result(0, 0)), "[[\"new\",1]]");
    d.patch("[{\"op\":\"replace\",\"path\":\"/k\",\"value\":2}]");
    Desk.same("run", d.h().run(0, false), 1);
    Desk.same("renew", d.h().renew(0), 1);
    Desk.same("run", d.h().run(0, false), 0);
    Desk.same("run of none", d.h().run(1, false) + d.h().run(-1, false) + d.h().run(4, true), -3);
    Desk.same("about the latest run", d.h().about(0) + " " + d.h().about(3), "0 0");
    d.data("{\"k\":1}");
    d.mods();
    Desk.same("renew to an empty bundle", d.h().renew(0), 1);
    Desk.same("run", d.h().run(0, false), 0);
    Desk.same("covered of no rule", d.h().covered(0), -1);
    Desk.same("prepare", d.prepare("y := input"), 1);
    Desk.same("no INPUT", d.h().run(1, false), 0);
    d.input("null");
    Desk.same("INPUT as it is now", d.h().run(1, false), 1);
    Desk.same("result", d.out(d.h().result(0, 0)), "[null]");
    d.tape("");
    d.h().input();
    Desk.same("no INPUT again", d.h().run(1, false), 0);
    for (int i = 0; i < 20; i++) {
      d.data("{\"k\":" + i + "}");
      Desk.same("renew", d.h().renew(i % 2), 1);
      d.input("[" + i + "]");
      Desk.same("run", d.h().run(1, false), 1);
      Desk.same("result", d.out(d.h().result(0, 0)), "[[" + i + "]]");
    }
  }

  public static void main(String[] args) {
    ways();
    tree();
    variables();
    many();
    alike();
    nested();
    noted();
    greats();
    limit();
    forms();
    kept();
    Desk.end("runs");
  }
}
