// Part IV of the document: FUEL, LIMIT, what is NOTED, what is TOO GREAT; promises 15 to 17 of these.
public final class PolicyHouseFuel extends Sheet {
  private static void takes() {
    world("{\"a\":[1,2,3],\"o\":{\"x\":1,\"y\":2},\"s\":\"str\",\"p\":{\"k\":1}}", "{\"u\":1}", """
        package p
        r := [1] if { true }
        f(x) := x if { x > 0 } else := 0
        g([x, {"k": y}]) := x
        s contains x if { some x in data.a }
        o[x] := 1 if { some x in data.a }
        e contains 1 if { false }
        default d := [1, 2, 3]
        h(x) := 5
        """);
    asks("""
        -- Each TRY takes 1
        true => [] @ 1+1
        false => @ 1
        true; 0; null => [] @ 3+1
        false; true => @ 1
        some x; x = 1 => [1] @ 2+2
        not false => [] @ 1+1
        not true => @ 1
        -- each number, key, element that a STEP by _ or by a variable that isn't KNOWN goes through .. takes 1
        data.a[_] == 2 => [] @ 1+3+3*3+1
        some i; data.a[i] == 2 => [1] @ 2+3+3*3+2
        some k; data.o[k] == 2 => ["y"] @ 2+2+2*3+3
        some i; data.a[0] == i; i = 0 => @ 3+3
        s := {5, 6}; s[_] == 5 => [{5,6}] @ 1+3+1+2+2*3+4
        data.s[_] => @ 1
        i := 1; data.a[i] == 2 => [1] @ 1+1+3+2
        -- each element (value) that some .. in goes through
        some x in data.a => [1] [2] [3] @ 1+3+3*2
        some 9 in data.a => @ 1+3
        some x in data.o => [1] [2] @ 1+2+2*2
        some i, 3 in data.a => [2] @ 1+3+2
        some x in data.s => @ 1
        -- (every goes through all elements, and takes nothing for them)
        every x in data.a { true } => [] @ 1+3+1
        every x in data.a { false } => @ 1+3
        every x in data.a { x < 2; true } => @ 1+3+3*3+1
        every x in data.s { true } => @ 1
        -- each key of a { : } that is looked for in a MATCH, takes 1: key by key in the order of the text (one that is not there ends it)
        {"a": x} := {"a": 1} => [1] @ 1+4+1+2
        {"a": x, "b": y} := {"a": 1} => @ 1+4+2
        {"b": x, "a": y} := {"a": 1} => @ 1+4+1
        {"a": 2, "b": y} := {"a": 1, "b": 3} => @ 1+7+1
        {"a": x} := {"a": 1, "b": 3} => @ 1+7+1
        {"a": x} := [1] => @ 1+2
        {} := {} => [] @ 1+1+1
        {"a": x, "a": y} := {"a": 1} => [1,1] @ 1+4+2+3
        {"a": {"b": x}} := {"a": {"b": 1}} => [1] @ 1+4+7+2+2
        -- [ ] and { : } that are MATCHED part by part are not made (and take no FUEL)
        [x, [y]] := data.a => @ 1
        [x, y, z] := data.a => [1,2,3] @ 1+4
        [1, 2, 3] := data.a => [] @ 1+1
        [1, 2, 3] = data.a => [] @ 1+4+1
        data.a = [1, 2, 3] => [] @ 1+1
        {[1]: x} := {[1]: 2} => [2] @ 1+2+4+2+1+2
        [{1}, x] := [{1}, 2] => [2] @ 1+2+4+2+2
        (1) := 1 => [] @ 1+1
        ([1]) := [1] => [] @ 1+2+2+1
        -- each CALL of a FUNCTION takes 1
        data.p.h(0) => [] @ 1+1+1
        data.p.f(1) => [] @ 1+1+1+3+1
        data.p.f(-1) => [] @ 1+1+1+3+1
        data.p.g([1, {"k": 2}]) => [] @ 1+4+6+1+1+1
        data.p.g([1, {"l": 2}]) => @ 1+4+6+1+1
        data.p.g([1, 2]) => @ 1+3+1
        data.p.g(data.q) => @ 1
        data.p.h(data.p.h(0)) => [] @ 1+2+1
        -- each SIGN takes the WEIGHTS of its operands, and the value that it makes
        1 + 2 == 3 => [] @ 1+2+1+2+1+1
        "abc" == "abcd" => @ 1+4+5+1
        data.a == data.a => [] @ 1+4+4+1+1
        2 in data.a => [] @ 1+1+4+1+1
        ({1} | {2}) => [] @ 1+2+2+2+2+3+1
        x := 1 / 0 => @ 1+2
        x := "a" + "b" => @ 1+2+2
        x := data.q + 1 => @ 1
        x := 1 + data.q => @ 1
        x := 1000000000000 + 1 => @ 1+2
        1 + 1 + 1 => [] @ 1+3+3+1
        x := {1} & 1 + 2 => @ 1+2+3+3
        x := {1} & 1 - 2 => @ 1+2+3+3
        x := 1 + 2 & {1} => @ 1+3+2+3
        x := 1 + 2 * "a" => @ 1+3
        x := "a" + 2 * 3 => @ 1+3+3
        x := ({1} | {2} & 3) => @ 1+2+2+3
        -- each CALL of a BUILT-IN takes the WEIGHTS of its operands (when all are there), and its value
        count(data.a) => [] @ 1+4+1+1
        count("abc") => [] @ 1+4+1+1
        count(data.a[0]) => @ 1+1
        concat("-", ["a", data.q]) => @ 1
        upper("abc") => [] @ 1+4+4+1
        max(data.q) => @ 1
        max([]) => @ 1+1+1
        walk(5) => [] @ 1+1+4+1
        object.get(data.o, "x", data.a) => [] @ 1+7+2+4+1+1
        -- each value that [ ], { }, set( ) (of constants alone, too), a COMPREHENSION makes takes its WEIGHT
        [] => [] @ 1+1+1
        {} => [] @ 1+1+1
        set() => [] @ 1+1+1
        [1, "ab"] => [] @ 1+5+1
        [[], {}] => [] @ 1+1+1+3+1
        {1: "ab"} => [] @ 1+5+1
        {1: 2, 1: 3} => @ 1
        {1, 1, 1} => [] @ 1+2+1
        [x | some x in data.a] => [] @ 1+1+3+4+1
        {1 | some x in data.a} => [] @ 1+1+3+2+1
        {1: 2 | some x in data.a} => [] @ 1+1+3+3+1
        {1: x | some x in data.a} => @ 1+1+3
        [1 | false] => [] @ 1+1+1+1
        "abc" => [] @ 1+1
        -- an object of THE TREE, once as a whole (see PolicyHouseScopes); a DOCUMENT of a SET or OBJECT rule, or a result
        data.p.s => [] @ 1+3+4+1+1
        data.p.o => [] @ 1+3+7+1+1
        data.p.e => [] @ 1+1+1+1
        data.p.r => [] @ 1+2+1+1
        data.p.s[_] => [] @ 1+3+4+1+3+3*1
        x := data.a => [[1,2,3]] @ 1+5
        -- a default is made by nobody
        data.p.d => [] @ 1+1
        x := data.p.d => [[1,2,3]] @ 1+5
        -- A result takes its WEIGHT in each WAY
        data.a[_] => [] @ 1+3+3
        x := 1; data.a[_] => [1] @ 2+3+3*2
        -- each SCOPE that with makes takes 100 (in each WAY of its EXPRESSIONS behind as), and TARGET by TARGET the WEIGHT of INPUT as it is then
        true with input as 5 => [] @ 1+100+1+1
        false with input as 5 => @ 1+100+1
        true with input as data.q => @ 1
        true with input as "ab" => [] @ 1+100+3+1
        true with input as [1, 2] => [] @ 1+3+100+3+1
        true with input.a as 5 => [] @ 1+100+7+1
        true with input.u as "ab" => [] @ 1+100+6+1
        true with input.u as 2 with input.b as 6 => [] @ 1+100+4+7+1
        true with input as 1 with input as 2 with input as 3 with input as 4 => [] @ 1+100+4+1
        true with input as data.a[_] => [] @ 1+3+3*102
        true with input as 1 + 1 => [] @ 1+3+100+1+1
        -- or of what DATA has under the first name of the PATH then
        true with data.k as "ab" => [] @ 1+100+3+1
        true with data.a as 5 => [] @ 1+100+1+1
        true with data.o.x as "ab" => [] @ 1+100+9+1
        true with data.o.x as 5 with data.o.z as 6 => [] @ 1+100+7+10+1
        true with data.k.l.m as 5 => [] @ 1+100+7+1
        true with data.p.l as 5 => [] @ 1+100+7+1
        true with data.o.x as 5 with input as 1 with data.a as 2 => [] @ 1+100+7+1+1+1
        -- (as replaced so far, in SCOPES around too)
        [x | x := 1 with data.o.z as 2] with data.o as 1 => [] @ 1+100+1+1+100+4+2+1
        [x | x := 1 with input.z as 2] with input as {} => [] @ 1+1+100+1+1+100+4+2+1
        -- nothing for the path of a rule
        true with data.p.r as [1, 2] => [] @ 1+3+100+1
        true with data.p.f as 1 with data.p.s as 2 => [] @ 1+100+1
        -- a LITERAL with with is one TRY in its WAY; not, every: their own TRY, then those of the LITERALS within
        not false with input as 1 => [] @ 1+100+1+1
        every x in [1, 2] { true } with input as 1 => [] @ 1+100+1+3+2+1
        -- json.patch the WEIGHT of what there is behind each of its operations, too
        json.patch({}, []) => [] @ 1+2+1+1+1+1
        json.patch(data.o, [{"op": "remove", "path": "/x"}]) => [] @ 1+19+20+7+20+4+4+1
        json.patch(data.o, [{"op": "remove", "path": "/x"}, {"op": "remove", "path": "/x"}]) => @ 1+19+19+39+7+39+4
        json.patch(data.o, [{"op": "remove", "path": "/x"}, {"op": "remove", "path": "/y"}]) => [] @ 1+19+19+39+7+39+4+1+1+1
        """);
    world("{\"a\":[1,2,3]}", null, """
        package w
        a := 1 if { data.a[_] > 0 }
        a := 1 if { data.a[_] > 0 } else := 2 if { data.a[_] > 0 }
        b := 1
        b := 2 if { true; true }
        b := 3 if { true; true; true }
        f(x) := 1 if { true; true }
        f(1) := 1 if { true; true; true }
        g(x) := x if { some y in data.a; y > 1 } else := 5 if { true }
        h(x) := y if { some y in data.a }
        o[1] := x if { some x in data.a }
        """);
    asks("""
        -- All is gone through wholly: nothing is left out because something was found (but BRANCHES behind one that has a value)
        data.w.a => [] @ 13+13+1+1
        data.w.b => -101 @ 2+3+1
        data.w.f(1) => [] @ 1+1+2+3+1
        data.w.f(2) => [] @ 1+1+2+1
        data.w.g(7) => [] @ 1+1+16+1
        data.w.h(0) => -101 @ 1+1+4
        data.w.o => -101 @ 1+3+1
        not data.a[_] => @ 1+3
        not data.a[_] > 0 => @ 1+3+9
        every x in data.a { data.a[_] > x } => @ 1+3*13
        x := data.a; x[_] = 1 => [[1,2,3]] @ 2+3+5
        1 = data.a[_] => [] @ 1+3+1
        -- (to MATCH ends where a part does not)
        [4, {1}] := [1, {1}] => @ 1+2+4
        {"k": 4, "l": {1}} := {"k": 1, "l": {1}} => @ 1+2+8+1
        """);
    world(null, null);
  }

  /** LITERALS that take so much, behind one that makes n: 500 numbers. */
  private static String burn(int fuel) {
    return "n == n; ".repeat(fuel / 1004) + "1 == 1; ".repeat(fuel % 1004 / 4) + "true; ".repeat(fuel % 4);
  }

  /** "FUEL: a RUN has 40000. Where more would be taken the RUN ends by LIMIT." */
  private static void limits() {
    String[] lasts = {"true", "data.a[_]", "some x in data.a", "\"ab\" == \"ab\"", "count(data.a) == 3", "[1, 2]", "[y | some y in data.a]",
      "{\"k\": 1} = {\"k\": 1}", "data.p.f(1)", "true with input as 1", "true with input as [1, 2]", "true with data.o as 5", "data.p.f([1])",
      "data", "json.patch({}, [{\"op\": \"add\", \"path\": \"\", \"value\": {}}])", "every x in data.a { true }", "not false"};
    String head = "n := numbers.range(1, 500); ";
    for (String last : lasts) {
      world("{\"a\":[1,2,3]}", null, "package p f(x) := x");
      d.number(head + last);
      int base = d.h().about(2);
      int more = 40000 - base;
      String q = head + burn(more);
      world("{\"a\":[1,2,3]}", null, "package p f(x) := x");
      same("all FUEL, at last " + last, d.number(q + last).matches("[13]"), true);
      same("its FUEL", d.h().about(2) + " " + d.h().about(0), "40000 0");
      world("{\"a\":[1,2,3]}", null, "package p f(x) := x");
      same("one more, at last " + last, d.number(head + "true; " + burn(more) + last), "-104");
      same("its FUEL", d.h().about(2) + " " + d.h().about(0) + " " + d.h().about(1) + " " + d.h().about(3), "40000 4 -1 0");
      same("covered", d.h().covered(-1) + " " + d.h().covered(0), "-1 -1");
      same("result", d.h().result(0, 0), -1);
      same("document", d.h().document(0), -1);
    }
    // LIMIT is ahead of all that was NOTED.
    d = new Desk();
    d.mods("package p a := 1 a := 2");
    String endless = "x := numbers.range(1, 500); [1 | x[_]; x[_]]";
    same("a CONFLICT, then LIMIT", d.number("not data.p.a; " + endless), "-104");
    same("about it", d.h().about(0) + " " + d.h().about(1) + " " + d.h().document(0) + " " + d.h().covered(0), "4 -1 -1 -1");
    same("TOO GREAT, then LIMIT", d.number("not [numbers.range(1, 500) | y := numbers.range(1, 9); y[_]]; " + endless), "-104");
    same("a BUILT-IN, then LIMIT", d.ask("not count(input) == 1; " + endless, true), "-104");
    same("the next RUN has all again", d.ask("true"), "[]");
    same("its FUEL", d.h().about(2), 2);
    same("no LIMIT", d.h().about(0), 0);
    world(null, null);
  }

  /** "if something was NOTED, -101 for a CONFLICT, -102 for something TOO GREAT, -103 for a BUILT-IN (the first of these that was NOTED at all)". */
  private static void notes() {
    world("{\"h\":\"" + "x".repeat(1999) + "\"}", null, """
        package p
        a := 1
        b := 1
        b := 2
        f(x) := 1
        f(x) := 2
        o[1] := 1
        o[1] := 2
        g := [data.h, data.h]
        h := hex.decode("x")
        i if { not count(data.p.j) }
        j := 5
        k if { not hex.decode("x") with input as 1 }
        """);
    noted("true", "1 0 -1 1", "1 0 -1 1");
    noted("data.p.b", "-101 1 1 0", "-101 1 1 0");
    noted("not data.p.b", "-101 1 1 0", "-101 1 1 0");
    noted("false; data.p.b", "-101 1 1 0", "-101 1 1 0");
    noted("data.p.f(1)", "-101 1 2 0", "-101 1 2 0");
    noted("data.p.o", "-101 1 3 0", "-101 1 3 0");
    noted("not data.p.o; not data.p.f(1)", "-101 1 2 0", "-101 1 2 0");
    noted("not data.p.f(1); not data.p.o; not data.p.b", "-101 1 1 0", "-101 1 1 0");
    noted("false; data.p.f(1)", "0 0 -1 0", "0 0 -1 0");
    noted("x := [1 | data.p.f(_v[_])]; _v := [1, 2]", "-101 1 2 0", "-101 1 2 0");
    noted("not data.p.b with input as 1", "-101 1 1 0", "-101 1 1 0");
    noted("not data.p.b with data.p.b as 1", "0 0 -1 0", "0 0 -1 0");
    noted("data.p.g", "-102 2 -1 0", "-102 2 -1 0");
    noted("not [data.h, data.h]", "-102 2 -1 0", "-102 2 -1 0");
    noted("not data.p.g; not data.p.b", "-101 1 1 0", "-101 1 1 0");
    noted("not data.p.g; not data.p.f(0); not hex.decode(\"x\")", "-101 1 2 0", "-101 1 2 0");
    noted("not data.p.g; not hex.decode(\"x\")", "-102 2 -1 0", "-102 2 -1 0");
    // In a STRICT RUN it is NOTED where a BUILT-IN has no value.
    noted("not hex.decode(\"x\")", "1 0 -1 1", "-103 3 54 0");
    noted("data.p.h", "0 0 -1 0", "-103 3 54 0");
    noted("not data.p.h with input as 1", "1 0 -1 1", "-103 3 54 0");
    noted("data.p.i", "1 0 -1 1", "-103 3 5 0");
    noted("data.p.k", "1 0 -1 1", "-103 3 54 0");
    noted("not hex.decode(\"x\"); not count(data.p.a); not base64.decode(\"x\")", "1 0 -1 1", "-103 3 5 0");
    noted("not base64.decode(\"x\"); not hex.decode(\"x\")", "1 0 -1 1", "-103 3 52 0");
    noted("not ceil(data.h); not abs(data.h)", "1 0 -1 1", "-103 3 0 0");
    noted("not walk(data.q)", "1 0 -1 1", "1 0 -1 1");
    noted("x := [y | y := max([])]", "1 0 -1 1", "-103 3 8 0");
    noted("false; hex.decode(\"x\")", "0 0 -1 0", "0 0 -1 0");
    // What a BUILT-IN makes out of bounds is NOTED as a BUILT-IN'S in a STRICT RUN; what SIGNS make so is nothing NOTED.
    noted("not sum([1000000000000, 1])", "1 0 -1 1", "-103 3 6 0");
    noted("not product([1000000000000, 2])", "1 0 -1 1", "-103 3 7 0");
    noted("not units.parse_bytes(\"1001G\")", "1 0 -1 1", "-103 3 64 0");
    noted("not 1000000000000 + 1", "1 0 -1 1", "1 0 -1 1");
    noted("not 1 / 0", "1 0 -1 1", "1 0 -1 1");
    noted("not \"a\" + 1", "1 0 -1 1", "1 0 -1 1");
    noted("not {1: 2, 1: 3}", "1 0 -1 1", "1 0 -1 1");
    // What is TOO GREAT is NOTED as such.
    noted("not hex.encode(concat(\"\", {data.h, \"y\"}))", "-102 2 -1 0", "-102 2 -1 0");
    world(null, null);
  }

  /** In a plain and in a STRICT RUN: what run answers, about(0), (1), (3). */
  private static void noted(String q, String plain, String strict) {
    ready(2 * q.length(), 20);
    int n = d.prepare(q);
    same(q, d.h().run(n, false) + " " + d.h().about(0) + " " + d.h().about(1) + " " + d.h().about(3), plain);
    same("strict " + q, d.h().run(n, true) + " " + d.h().about(0) + " " + d.h().about(1) + " " + d.h().about(3), strict);
    boolean none = d.h().about(0) != 0 || d.h().about(3) == 0;
    same("result of " + q, d.h().result(0, 0) < 0, none);
    same("no such what", d.h().about(-1) + " " + d.h().about(4), "-1 -1");
    d.h().release(n);
  }

  /** "A value that is TOO GREAT is no WAY, and is NOTED (of what an EXPRESSION, a DOCUMENT or with makes)": 4000 may be, 4001 not. */
  private static void greats() {
    String world = "{\"h\":\"" + "x".repeat(1999) + "\"}";
    String input = "\"" + "y".repeat(1998) + "\"";
    world(world, input, """
        package p
        a := data.h
        b := input
        """, """
        package s
        s contains data.h
        s contains input
        t contains data.h
        t contains input
        t contains 1
        o[data.h] := input
        u[data.h] := input
        u[1] := 2
        v[0] := 1
        v[data.h] := "z" if { input }
        v[input] := 3
        """);
    // h has the WEIGHT 2000, INPUT 1999.
    asks("""
        -- [ ], { }, { : }, COMPREHENSIONS: takes its WEIGHT (that of what is TOO GREAT: 4000)
        count([data.h, input]) == 2 => [] @ 1+4000+4000+1+2+1+1
        count([data.h, input, 1]) == 3 => -102 @ 1+4000
        count({data.h, input}) == 2 => [] @ 1+4000+4000+1+2+1+1
        count({data.h, input, 1}) == 3 => -102 @ 1+4000
        count({data.h: input}) == 1 => [] @ 1+4000+4000+1+2+1+1
        count({data.h: data.h}) == 1 => -102 @ 1+4000
        count([x | some x in {data.h, input}]) == 2 => [] @ 1+1+4000+2+4000+4000+1+2+1+1
        count([data.h | some x in [1, 2]]) == 2 => -102 @ 1+1+3+2+4000
        count({x: data.h | some x in [data.h]}) == 1 => -102 @ 1+1+2001+1+4000
        not [data.h, data.h] => -102 @ 1+4000+1
        -- a SIGN
        count({data.h} | {input}) == 2 => [] @ 1+2001+2000+4001+4000+4000+1+2+1+1
        count({data.h} | {input, 1}) == 3 => -102 @ 1+2001+2001+4002+4000
        -- a BUILT-IN
        count(concat("zz", [data.h, input])) == 3999 => [] @ 1+4000+3+4000+4000+4000+1+2+1+1
        count(concat("zzz", [data.h, input])) == 4000 => -102 @ 1+4000+4+4000+4000
        count(array.concat([data.h], [input])) == 2 => [] @ 1+2001+2000+4001+4000+4000+1+2+1+1
        count(array.concat([data.h], [data.h])) == 2 => -102 @ 1+2001+2001+4002+4000
        -- a DOCUMENT of a SET or OBJECT rule
        count(data.s.s) == 2 => [] @ 4000+1+4000+1+2+1+1
        count(data.s.t) == 3 => -102 @ 4000+1
        count(data.s.o) == 1 => [] @ 4000+1+4000+1+2+1+1
        count(data.s.u) == 2 => -102 @ 4000+1
        -- an object of THE TREE
        count(data.p) == 2 => -102 @ 1+4000
        count(data.p) == 2 with data.p.b as 1 => [] @ 1+100+2006+2006+1+2+1+1
        -- a result
        x := [data.h, input] => -102 @ 1+4000+4000
        x := data.h; y := data.h => -102 @ 2+4000
        -- a value of a step is made by nobody
        data.h => [] @ 1+1
        """);
    same("a result of 4000", d.number("x := data.h; y := input"), "1");
    same("its FUEL", d.h().about(2), 2 + 4000);
    // INPUT made by with that is TOO GREAT: no WAY, NOTED; the TARGETS behind are not looked at.
    asks("""
        true with input as [data.h, input] => [] @ 1+4000+100+4000+1
        true with input.k as [data.h, input] => -102 @ 1+4000+100+4000
        not false with input.k as [data.h, input] => -102 @ 1+4000+100+4000
        true with input.k as [data.h, input] with input as 1 => -102 @ 1+4000+100+4000
        true with input.k as data.h with input.l as data.h with input.m as 1 => -102 @ 1+100+2003+4000
        x := [1 | true with input.k as [data.h, input]] => -102 @ 1+1+4000+100+4000+1+2
        -- of THE TREE that is not asked, but an object of it that is made
        true with data.k.l as [data.h, input] => [] @ 1+4000+100+4000+1
        true with data.k.l as [data.h, input] with data.k.m as 1 => [] @ 1+4000+100+4000+4000+1
        count(data.k.l) == 2 with data.k.l as [data.h, input] => [] @ 1+4000+100+4000+4000+1+2+1+1
        count(data.k) == 1 with data.k.l as [data.h, input] => [] @ 1+4000+100+4000+4003+1+2+1+1
        x := data.k with data.k.l as [data.h, input] => -102 @ 1+4000+100+4000+4000
        count(data.p) == 2 with data.p.k as [data.h, input] => -102 @ 1+4000+100+4000+4000
        -- json.patch: one behind which it is TOO GREAT takes 4000 once, and so does none at all on what is TOO GREAT
        count(json.patch([data.h], [{"op": "add", "path": "/-", "value": 1}])) == 2 => [] @ 1+2001+23+24+2001+24+2002+2002+2002+1+2+1+1
        count(json.patch([data.h], [{"op": "copy", "path": "/-", "from": "/0"}])) == 2 => -102 @ 1+2001+25+26+2001+26+4000
        count(json.patch([data.h], [{"op": "copy", "path": "/-", "from": "/0"}, {"op": "remove", "path": "/0"}])) == 1 => -102 @ 1+2001+25+19+45+2001+45+4000
        x := count(json.patch(data.k, [])) with data.k.l as [data.h, input] => -102 @ 1+4000+100+4000+1+4003+1+4000
        x := count(json.patch(data.k, [{"op": "remove", "path": "/l"}])) with data.k.l as [data.h, input] => [0] @ 1+4000+100+4000+19+20+4003+20+1+1+1+1+2
        x := count(json.patch(data.k, [{"op": "test", "path": "/m", "value": 1}])) with data.k.l as [data.h, input] => @ 1+4000+100+4000+24+25+4003+25
        """);
    world(null, null);
  }

  /** "A constant that is TOO GREAT has no WAY and is NOTED (without FUEL), as a default likewise: no DOCUMENT." */
  private static void constants() {
    String fit = "\"" + "x".repeat(3999) + "\"";
    String big = "\"" + "x".repeat(4000) + "\"";
    String[][] cases = {{"count(" + fit + ") == 3999", "1", "" + (1 + 4000 + 1 + 2 + 1 + 1)}, {"count(" + big + ") == 4000", "-102", "1"},
      {"not " + big, "-102", "2"}, {"x := [1, " + big + "]", "-102", "1"}, {"x := 1 + " + big, "-102", "1"}, {"x := input[" + big + "]", "0", "1"},
      {"x := 1; x = " + big, "-102", "2"}, {"{" + big + ": 1} = {1: 2}", "-102", "1"}, {"x := `" + "x".repeat(4000) + "`", "-102", "1"},
      {"[" + big + "] := [1]", "-102", "" + (1 + 2)}, {"[" + big + "] := [1, 2]", "0", "" + (1 + 3)}, {"data.q; " + big, "0", "1"},
      {"x := [y | y := 1; " + big + "]", "-102", "" + (1 + 2 + 1 + 2)}, {"true with input as " + big, "-102", "1"}};
    for (String[] c : cases) {
      d = new Desk();
      same(c[0].replace(big, "BIG"), d.number(c[0]), c[1]);
      same("FUEL of " + c[0].replace(big, "BIG"), d.h().about(2), c[2]);
    }
    String half = "x".repeat(1999);
    String[][] defaults = {{fit, "there"}, {big, "great"}, {"[" + fit + "]", "great"}, {"[\"" + "x".repeat(3998) + "\"]", "there"},
      {"{\"" + "x".repeat(3997) + "\": 1}", "there"}, {"{" + fit + ": 1}", "great"}, {"{1: 2, 1: 3}", "none"},
      {"[{1: 2, 1: 3}, " + big + "]", "none"}, {"[" + big + ", {1: 2, 1: 3}]", "great"},
      {"[\"" + half.substring(1) + "\", \"" + half + "\"]", "there"}, {"[\"" + half + "\", \"" + half + "\"]", "great"}};
    for (String[] c : defaults) {
      d = new Desk();
      d.mods("package p default a := " + c[0]);
      String got = d.number("x := count(data.p.a)");
      String what = d.h().document(0) >= 0 ? "there" : d.h().about(0) == 2 ? "great" : "none";
      same("default " + c[0].replaceAll("x+", "x.."), what + " " + got, c[1] + " " + (what.equals("there") ? 1 : what.equals("great") ? -102 : 0));
    }
    // Without FUEL, and NOTED in each RUN and SCOPE that needs it, but not where it is not needed.
    d = new Desk();
    d.mods("package p default a := " + big + " a := 1 if { input }");
    same("a default that is not needed", d.number("data.p.a with input as 1"), "1");
    same("a default that is", d.number("not data.p.a"), "-102");
    same("its FUEL", d.h().about(2), 1 + 1 + 1);
    d.input("true");
    same("a default that is needed in a SCOPE", d.number("data.p.a; not data.p.a with input as false"), "-102");
    same("a default that is not", d.number("data.p.a"), "1");
  }

  public static void main(String[] args) {
    takes();
    limits();
    notes();
    greats();
    constants();
    Desk.end("fuel");
  }
}
