// Part IV of the document: THE TREE, with, SCOPES and their DOCUMENTS, with what VI tells of them.
public final class PolicyHouseScopes extends Sheet {
  private static void trees() {
    world("{\"a\":{\"q\":1,\"b\":{\"z\":9,\"f\":1,\"none\":4,\"x\":8,\"s\":{\"t\":1}}},\"c\":5,\"conf\":{\"k\":[7,{\"l\":8}]}}", null, """
        package a.b
        x := 1
        f(y) := y
        none := 1 if { false }
        s contains 1
        """, "package e", "package c.d\nv := {\"w\": [2]}");
    String ab = "{\"s\":{1},\"x\":1,\"z\":9}";
    asks("""
        -- THE TREE: at a path: if it is that of a rule: its DOCUMENT, none of a FUNCTION
        x := data.a.b.x => [1]
        x := data.a.b.none =>
        x := data.a.b.none.x =>
        x := data.a.b.f =>
        x := data.a.b.f.x =>
        x := data.a.b.s => [{1}]
        x := data.a.b.s[1] => [1]
        x := data.a.b.s.t =>
        x := data.c.d.v.w[0] => [2]
        -- if it is a beginning of one, or of a package's (the whole path, too): an object, whose keys are those of the object that DATA has there, if so, and the next names of these paths (but of FUNCTIONS), with what is in THE TREE behind each, those of which there is something
        x := data.a.b => [AB]
        x := data.a => [{"b":AB,"q":1}]
        x := data.e => [{}]
        x := data.c => [{"d":{"v":{"w":[2]}}}]
        x := data.c.d => [{"v":{"w":[2]}}]
        x := data => [{"a":{"b":AB,"q":1},"c":{"d":{"v":{"w":[2]}}},"conf":{"k":[7,{"l":8}]},"e":{}}]
        -- else what DATA has there
        x := data.a.b.z => [9]
        x := data.a.q => [1]
        x := data.a.q.r =>
        x := data.conf => [{"k":[7,{"l":8}]}]
        x := data.conf.k[1].l => [8]
        x := data.g =>
        x := data.e.g =>
        x := data.c.g =>
        -- STEPS by strings go along it without making such an object; where it is the value, it is made
        x := data.a.b.z => [9] @ 1+2
        x := data.a.q => [1] @ 1+2
        k := "b"; x := data.a[k].z => ["b",9] @ 1+2+2+4
        x := data["a"].q => [1] @ 1+2
        x := data.e => [{}] @ 1+1+2
        x := data.c => [{"d":{"v":{"w":[2]}}}] @ 2+5+1+11+12
        x := count(data.e) => [0] @ 1+1+1+1+2
        -- by _ and unKNOWN variables they go through its keys
        some k; data[k] => ["a"] ["c"] ["conf"] ["e"]
        some k; data.a[k] => ["b"] ["q"]
        some k; data.a.b[k] => ["s"] ["x"] ["z"]
        some k; data.e[k] =>
        some k; data.c[k] => ["d"]
        some k; x := data.c.d[k].w[0] => ["v",2]
        x := data[_].q => [1] @ 1+2+2+5+1+4+2
        x := data[_].b.z => [9]
        some k; x := data.conf.k[k] => [0,7] [1,{"l":8}]
        some j, k; x := data.a[j][k] => ["b","s",{1}] ["b","x",1] ["b","z",9]
        x := data.e[_] => @ 1
        -- else no WAY
        x := data.a[0] =>
        x := data.a[null] =>
        x := data[0] =>
        x := data.e[{}] =>
        -- what was made is a value as any other
        x := data.a; y := x.q => [{"b":AB,"q":1},1]
        x := data.a; y := x["b"].z => [{"b":AB,"q":1},9]
        x := data.c; y := data.conf.k[0] => [{"d":{"v":{"w":[2]}}},7]
        x := data.e; y := input => @ 1+1+1
        x := data.e; y := input with input as 6 => [{},6]
        x := data.e; y := input.k with input as {"k": [6]} => [{},[6]]
        x := data.a; some k; x.b[k] == 9 => [{"b":AB,"q":1},"z"]
        -- with below the name of a package
        x := data with data.a.q as 7 => [{"a":{"b":AB,"q":7},"c":{"d":{"v":{"w":[2]}}},"conf":{"k":[7,{"l":8}]},"e":{}}]
        x := data.a with data.a.q as 7 with data.a.r as 8 => [{"b":AB,"q":7,"r":8}]
        x := data.a.q with data.a.q as 7 => [7]
        some k; data.a[k] with data.a.r as 7 => ["b"] ["q"] ["r"]
        some k; data[k].k with data.e.k as 7 => ["conf"] ["e"]
        x := data.c with data.c.k as 7 => [{"d":{"v":{"w":[2]}},"k":7}]
        x := data.a.b with data.a.b.z as 7 with data.a.b.g as 8 => [{"g":8,"s":{1},"x":1,"z":7}]
        """.replace("AB", ab));
    world("{\"a\":1,\"b\":{\"c\":2}}", null);
    asks("""
        -- without modules it is DATA, which nobody makes
        x := data => [{"a":1,"b":{"c":2}}] @ 1+11
        x := data.b => [{"c":2}] @ 1+5
        some k; data[k] => ["a"] ["b"] @ 1+1+2+3+3
        -- (of data alone, where something is replaced, an object likewise)
        x := data with input as 1 => [{"a":1,"b":{"c":2}}] @ 1+100+1+11
        x := data with data.a as 3 => [{"a":3,"b":{"c":2}}] @ 1+100+1+10+11
        x := data.b with data.a as 3 => [{"c":2}] @ 1+100+1+5
        x := data with data.d as 3 => [{"a":1,"b":{"c":2},"d":3}] @ 1+100+1+13+14
        some k; data[k] with data.d as 3 => ["a"] ["b"] ["d"] @ 1+1+100+1+3+3*3
        some k; data[k] with data.a as 3 => ["a"] ["b"] @ 1+1+100+1+2+2*3
        """);
    world("{\"e\":{\"g\":5,\"h\":{\"i\":6}}}", null, "package a", "package e");
    asks("""
        x := data => [{"a":{},"e":{"g":5,"h":{"i":6}}}] @ 1+16+17
        x := data.e; y := x.g => [{"g":5,"h":{"i":6}},5] @ 1+10+1+12
        x := data.e; y := x.h => [{"g":5,"h":{"i":6}},{"i":6}] @ 1+10+1+15
        x := data.e; y := input with input as 7 => [{"g":5,"h":{"i":6}},7]
        """);
    world(null, null);
  }

  private static void withs() {
    world("{\"n\":[1,2],\"m\":[3,4],\"o\":{\"p\":5,\"q\":{\"r\":6}},\"s\":7}", "{\"u\":{\"v\":1},\"w\":2}", "package z\na := input.w\nb := data.s\nc := [a, b]\nf(x) := [x, a]\nd[input.w] := b\n");
    asks("""
        -- with: its EXPRESSIONS first, from the left, in each WAY of those ahead, in this SCOPE
        x := input with input as data.n[_] => [1] [2]
        y := [x | x := [input, data.t] with input as data.n[_] with data.t as data.m[_]] => [[[1,3],[1,4],[2,3],[2,4]]]
        x := data.t with input.w as 5 with data.t as input.w => [2]
        x := data.t with data.s as 8 with data.t as data.s => [7]
        x := data.t with data.t as data.z.a with input.w as 9 => [2]
        x := 1 with input as data.nothing =>
        x := 1 with input as data.nothing with input as data.n[_] => @ 1
        x := 1 with input as data.n[_] with input as data.nothing => @ 1+2
        not false with input as data.n[_] => []
        y := [1 | not false with input as data.n[_]] => [[1,1]]
        y := [1 | not false with input as data.nothing] => [[]]
        -- input: it is INPUT
        x := input with input as null => [null]
        x := input.u with input as {} =>
        x := input with input as {{1}} => [{{1}}]
        -- input and a PATH: INPUT is changed so that the object at all but the last name has it under this; objects that are not there, or what is none, are made
        x := input with input.w as 3 => [{"u":{"v":1},"w":3}]
        x := input with input.k as 3 => [{"k":3,"u":{"v":1},"w":2}]
        x := input.u with input.u.k as 3 => [{"k":3,"v":1}]
        x := input.w with input.w.k.l as 3 => [{"k":{"l":3}}]
        x := input.k with input.k.l.m as 3 => [{"l":{"m":3}}]
        x := input.a with input.a.b.c.d.e.f as 3 => [{"b":{"c":{"d":{"e":{"f":3}}}}}]
        -- (if it is no object, an empty one first)
        x := input with input as 5 with input.k as 3 => [{"k":3}]
        x := input with input as [1] with input.k.l as 3 => [{"k":{"l":3}}]
        x := input with input as {"k": [1]} with input.k.l as 3 => [{"k":{"l":3}}]
        x := input with input as {1: 2} with input.k as 3 => [{1:2,"k":3}]
        -- data and a PATH: at the path, and behind it, THE TREE is this value
        x := data.s with data.s as 8 => [8]
        x := data.o with data.o.p as 8 => [{"p":8,"q":{"r":6}}]
        x := data.o.q with data.o as 8 =>
        x := data.o.q.r with data.o.q as {"k": 8} =>
        x := data.o.q.k with data.o.q as {"k": 8} => [8]
        x := data.o.q with data.o.q.k as 8 => [{"k":8,"r":6}]
        x := data.s with data.s.k.l as 8 => [{"k":{"l":8}}]
        x := data.k with data.k.l.m.o.p.q as 8 => [{"l":{"m":{"o":{"p":{"q":8}}}}}]
        x := data.z.k with data.z.k as 8 => [8]
        x := data.z.k.l with data.z.k.l as 8 => [8]
        x := data.z with data.z.k as 8 with data.z.a as 9 => [{"a":9,"b":7,"c":[9,7],"d":{2:7},"k":8}]
        x := data.z.a with data.z.a as 8 => [8]
        x := data.z.a.k with data.z.a as {"k": 8} => [8]
        x := data.z.c with data.z.a as 8 => [[8,7]]
        x := data.z.c with data.z.a as false => [[false,7]]
        x := data.z.f with data.z.f as 8 => [8]
        x := data.z.f(1) with data.z.f as 8 => [[1,2]]
        x := data.z.f(1) with data.z.a as 8 => [[1,8]]
        x := data.z.f(1) with input.w as 8 => [[1,8]]
        x := data.z.d with input.w as 8 => [{8:7}]
        x := data.z.d with data.z.d as 8 => [8]
        -- THE TREE above a replaced path is an object, with the keys of before and this one
        x := data.o with data.o.k as 8 => [{"k":8,"p":5,"q":{"r":6}}]
        x := data.s with data.s.k as 8 => [{"k":8}]
        x := data.n with data.n.k as 8 => [{"k":8}]
        -- one TARGET is replaced after the other
        x := data.t with data.t as 1 with data.t.b as 2 => [{"b":2}]
        x := data.t with data.t.b as 2 with data.t as 1 => [1]
        x := data.t with data.t.b as 2 with data.t.c as 3 => [{"b":2,"c":3}]
        x := data.t with data.t.b as 2 with data.t.b as 3 => [{"b":3}]
        x := [data.s, data.t] with data.s as 1 with data.t.b as 2 with data.t.c as 3 => [[1,{"b":2,"c":3}]]
        x := [data.s, data.t, data.o.q] with data.s as 1 with data.t.b as 2 with data.o.q as 3 with data.t.c as 4 => [[1,{"b":2,"c":4},3]]
        x := [data.s, data.t] with data.t.b as 2 with data.s as 1 with data.s.k as 3 => [[{"k":3},{"b":2}]]
        x := data.t with data.t.b as 2 with data.t.b.c as 3 => [{"b":{"c":3}}]
        x := input with input as 1 with input.b as 2 => [{"b":2}]
        x := input with input.b as 2 with input as 1 => [1]
        x := data.z.a with data.z.a as 1 with data.z.a as 2 => [2]
        x := [input.w, data.s, data.t, data.z.a] with input.w as 1 with data.s as 2 with data.t as 3 with data.z.a as 4 => [[1,2,3,4]]
        -- Its DOCUMENTS are made anew, and forgotten behind the LITERAL
        x := data.z.a; y := data.z.a with input.w as 8; z := data.z.a => [2,8,2]
        y := data.z.a with input.w as 8; x := data.z.a => [8,2]
        y := data.z.c with input.w as 8 with data.s as 9; x := data.z.c => [[8,9],[2,7]]
        x := input with input as 5; y := input.w; z := data.t with data.t as 1; not data.t => [5,2,1]
        true with data.s as 8; x := data.s => [7]
        x := [data.z.a | some y in [1]; y == data.z.b with data.s as 1] => [[2]]
        -- behind a LITERAL that has no WAY, too
        x := [[y, data.z.a] | some y in [7, 8, 2]; not data.z.b == y with data.s as 8] => [[[7,2],[2,2]]]
        """);
    asks("""
        -- SCOPES within one another: what is replaced around stays so
        x := [[y, data.s, input.w] | y := [data.s, input.w] with input.w as 8] with data.s as 9 => [[[[9,8],9,2]]]
        x := [y | y := data.z.c with input.w as 8] with data.z.a as 1 => [[[1,7]]]
        x := [y | y := data.z.c with data.z.a as 3] with data.z.a as 1 => [[[3,7]]]
        x := [y | y := data.z.c with data.s as 8] with data.z.b as 1 => [[[2,1]]]
        x := [y | y := data.t with data.t.c as 3] with data.t.b as 2 => [[{"b":2,"c":3}]]
        x := [y | y := data.t with data.t.c as data.t.b] with data.t.b as 2 => [[{"b":2,"c":2}]]
        x := [y | y := input with input.b as 3] with input as {"a": 1} => [[{"a":1,"b":3}]]
        x := [[z, data.s] | z := [[y, data.s] | y := data.s with data.s as 3] with data.s as 2] with data.s as 1 => [[[[[3,2]],1]]]
        every v in [1, 2] { v == input.w with input.w as v; input.w == 5 } with input.w as 5 => []
        x := [y | some v in [1, 2]; y := data.z.d with input.w as v] => [[{1:7},{2:7}]]
        x := [[v, y] | some v in [1, 2]; y := data.z.d with input.w as v] => [[[1,{1:7}],[2,{2:7}]]]
        -- three of them, with four TARGETS each
        x := [y | y := [[z, data.a1, data.z.a] | z := [data.a1, data.a2, data.a3, data.a4, data.b1, data.b2, data.b3, data.b4, data.c1, data.c2, data.c3, data.c4, data.z.c] with data.c1 as 9 with data.c2 as 10 with data.c3 as 11 with data.c4 as 12] with data.b1 as 5 with data.b2 as 6 with data.b3 as 7 with data.b4 as 8] with data.a1 as 1 with data.a2 as 2 with data.a3 as 3 with data.a4 as 4 => [[[[[1,2,3,4,5,6,7,8,9,10,11,12,[2,7]],1,2]]]]
        x := [y | y := [z | z := data with data.c1 as 9 with data.c2 as 10 with data.c3 as 11 with data.c4.k as 12] with data.b1 as 5 with data.b2 as 6 with data.b3 as 7 with data.b4 as 8] with data.a1 as 1 with data.a2 as 2 with data.a3 as 3 with data.c4.l as 4 => [[[{"a1":1,"a2":2,"a3":3,"b1":5,"b2":6,"b3":7,"b4":8,"c1":9,"c2":10,"c3":11,"c4":{"k":12,"l":4},"m":[3,4],"n":[1,2],"o":{"p":5,"q":{"r":6}},"s":7,"z":{"a":2,"b":7,"c":[2,7],"d":{2:7}}}]]]
        """);
    world(null, null);
  }

  /** Which DOCUMENTS are made where, told by document() and covered(). */
  private static void documents() {
    world("{}", "{\"i\":1}", """
        package p
        a := 1 if { true }
        b := a if { true; true }
        f(x) := b if { true; true; true }
        c := x if { x := a with input as 5 }
        d := f(1) if { true }
        e contains x if { x := input.i }
        g := [x | x := e with input.i as 2]
        """);
    made("true", "none none none none none none", "0 0 0 0 0 0 0 1");
    made("data.p.a", "1 none none none none none", "1 0 0 0 0 0 0 1");
    made("data.p.b", "1 1 none none none none", "1 2 0 0 0 0 0 1");
    // A FUNCTION that is read makes what it reads, called or not.
    made("not 1 == data.p.f(0); false", "1 1 none none none none", "1 2 3 0 0 0 0 1");
    made("false; data.p.f(0)", "1 1 none none none none", "1 2 0 0 0 0 0 1");
    made("data.p.f(1); data.p.f(2)", "1 1 none none none none", "1 2 6 0 0 0 0 2");
    made("data.p.f", "1 1 none none none none", "1 2 0 0 0 0 0 1");
    made("data.p.d", "1 1 none 1 none none", "1 2 3 0 1 0 0 1");
    // All of it, but what is in LITERALS with with.
    made("data.p.c", "none none 1 none none none", "1 0 0 1 0 0 0 1");
    made("data.p.a with input as 1", "none none none none none none", "1 0 0 0 0 0 0 1");
    made("true; data.p.b with input as 1", "none none none none none none", "1 2 0 0 0 0 0 2");
    made("data.p.b with input as data.p.a", "1 none none none none none", "2 2 0 0 0 0 0 1");
    made("x := [y | y := data.p.b with input as 1]", "none none none none none none", "1 2 0 0 0 0 0 2");
    made("x := [data.p.e | y := data.p.b with input as 1]", "none none none none {1} none", "1 2 0 0 0 1 0 2");
    made("x := [data.p.e | y := data.p.b with input as 1] with input.i as 7", "none none none none none none", "1 2 0 0 0 1 0 2");
    made("x := [y | y := data.p.b with input as data.p.e] with input.i as 7", "none none none none none none", "1 2 0 0 0 1 0 2");
    made("data.p.g", "none none none none none [{2}]", "0 0 0 0 0 1 1 1");
    made("data.p.e; data.p.g", "none none none none {1} [{2}]", "0 0 0 0 0 2 1 2");
    // In a SCOPE of with of all that its LITERAL reads so, but those whose paths are replaced.
    made("data.p.b with data.p.a as 5", "none none none none none none", "0 2 0 0 0 0 0 1");
    made("data.p.b with data.p.b as 5", "none none none none none none", "0 0 0 0 0 0 0 1");
    made("data.p.d with data.p.b as 5", "none none none none none none", "0 0 3 0 1 0 0 1");
    made("data.p.d with data.p.f as 5", "none none none none none none", "1 2 3 0 1 0 0 1");
    made("data.p with data.p.b as 5 with data.p.g as 1", "none none none none none none", "2 0 3 1 1 1 0 1");
    // (here or in a SCOPE around)
    made("x := [y | y := data.p.b with input as 1] with data.p.a as 5", "none none none none none none", "0 2 0 0 0 0 0 2");
    made("x := [y | some y in [1, 2]; data.p.b with input as y]", "none none none none none none", "2 4 0 0 0 0 0 4");
    made("every y in [1, 2] { data.p.b with input as y } with data.p.b as 5", "none none none none none none", "0 0 0 0 0 0 0 3");
    // None that a with makes is the QUERY's own.
    made("data.p.a; data.p.b with input as 1; data.p.a", "1 none none none none none", "2 2 0 0 0 0 0 3");
    // In the middle of what is gathered.
    asks("""
        x := [y | some z in [1, 2]; y := data.p.e with input.i as z] => [[{1},{2}]]
        x := [y | some z in [1, 2]; y := [z, data.p.g] with input.i as z] => [[[1,[{2}]],[2,[{2}]]]]
        x := {z: y | some z in [1, 2]; y := data.p.e with input.i as z} => [{1:{1},2:{2}}]
        """);
    asks("""
        -- at most 3 LITERALS with with are looked at within one another
        x := [y | y := [z | z := input with input as 3] with input as 2] with input as 1 => [[[3]]]
        7 ¿x := [y | y := [z | z := [w | w := input with input as 4] with input as 3] with input as 2] with input as 1
        x := [y | y := [z | z := data.p.a with input as 3] with input as 2] with input as 1 => [[[1]]]
        7 true; ¿x := [y | y := [z | z := data.p.c with input as 3] with input as 2] with input as 1
        x := [y | y := data.p.c with input as 2] with input as 1 => [[1]]
        x := 1 with input as [y | y := data.p.c with input as [z | z := 1 with input as 3]] => [1]
        every y in [1] { data.p.c with input as [z | z := data.p.c with input as 1] } => []
        """);
    world("{}", null, """
        package w
        f(x) := 1 if { 1 with input as 1 }
        g(x) := 1 if { f(x) with input as 1 }
        h(x) := 1 if { g(x) with input as 1 }
        i(x) := 1 if { h(x) }
        j := 1 if { 1 with input as i(1) }
        """, "package v\ny := 1");
    asks("""
        -- by what its LITERALS read: FUNCTIONS, too; what EXPRESSIONS behind as read counts without it
        data.w.g(1) with input as 1 => []
        7 ¿data.w.h(1) with input as 1
        7 true; ¿x := [1 | data.w.i(1) with input as 1]
        data.w.h(1) => []
        data.w.i(1) => []
        data.w.j => []
        7 ¿data.w.j with input as 1
        true with input as data.w.i(1) => []
        true with input as data.w.j => []
        true with data.w.h as 1 => []
        7 ¿data.w.h with input as 1
        7 ¿data.w with input as 1
        7 x := 1; ¿not data.w.h(1) with input as 1
        7 x := 1; ¿some y in [data.w.h(1)] with input as 1
        7 x := 1; ¿every y in [1] { data.w.h(1) } with input as 1
        7 x := 1; ¿every y in [1] { data.w.h(1) with input as 1 }
        7 x := 1; ¿y = data.w.h(1) with input as 1; some y
        7 data.w.h(1); data.w.g(1) with input as 1; ¿data.w.h(2) with input as 1; data.w.h(3) with input as 1
        """);
    world(null, null);
  }

  private static void made(String q, String documents, String covered) {
    ready(q.length(), 70);
    d.number(q);
    StringBuilder docs = new StringBuilder();
    StringBuilder tries = new StringBuilder();
    for (int r = 0; r < 7; r++) {
      if (r != 2) docs.append(docs.length() > 0 ? " " : "").append(d.out(d.h().document(r)));
      tries.append(d.h().covered(r)).append(' ');
    }
    same("DOCUMENTS by " + q, docs, documents);
    same("TRIES by " + q, tries.append(d.h().covered(-1)), covered);
    same("a FUNCTION has none", d.h().document(2), -1);
    same("no such rule", d.h().covered(7) + " " + d.h().covered(-2), "-1 -1");
  }

  /** covered(): "How many TRIES there were in the BODIES of a RULE and in those within them, in all SCOPES (-1: in those of the QUERY)". */
  private static void tries() {
    world("{\"a\":[1,2,3]}", null, "package p\nr := x if { some x in data.a; x > 1; y := [z | some z in [x, 5]; z > 2]; every w in y { w < 9; w > 0 }; x == 2 } else := 5 if { true }\n"
        + "g(x) if { x == 1 } else if { x == 2; true }\nn := 1\n");
    tried("data.p.r == 2", "22 0 0 1");
    tried("true; false; true", "0 0 0 2");
    tried("some x in data.a; x > 1; true", "0 0 0 6");
    tried("data.a[_]; true; true", "0 0 0 7");
    tried("not data.a[_] == 2; true", "0 0 0 1");
    tried("every x in data.a { x > 0; data.a[_] }", "0 0 0 7");
    tried("every x in data.a { false }", "0 0 0 4");
    tried("every x in [] { false }", "0 0 0 1");
    tried("x := [1 | data.a[_]; [2 | true] == [2]]", "0 0 0 8");
    tried("x := [1 | false] with input as data.a[_]", "0 0 0 4");
    tried("true with input as [1 | true]", "0 0 0 2");
    tried("data.p.g(1)", "0 1 0 1");
    tried("data.p.g(2)", "0 3 0 1");
    tried("data.p.g(3)", "0 2 0 1");
    tried("data.p.n == 1", "0 0 0 1");
    tried("some x; x = 1; true", "0 0 0 3");
    tried("x := [1 | true with input as data.a[_]]", "0 0 0 2");
    world(null, null);
  }

  private static void tried(String q, String due) {
    ready(q.length(), 30);
    d.number(q);
    same("TRIES by " + q, d.h().covered(0) + " " + d.h().covered(1) + " " + d.h().covered(2) + " " + d.h().covered(-1), due);
  }

  public static void main(String[] args) {
    trees();
    withs();
    documents();
    tries();
    Desk.end("scopes");
  }
}
