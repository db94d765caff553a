// Part III of the document (names, faults, the order of literals), with what VI tells of CHECKS and FAULT 8.
public final class PolicyHouseChecks extends Sheet {
  private static void clashes() {
    faults("""
        -- an ALIAS that is there already (at the import)
        0 package p import data.a import data.b
        1 package p import data.a ¿import input.a
        1 package p import data.a import data.b as c ¿import data.d.a
        1 package p import data.a as b ¿import data.b
        1 package p import data.a ¿import data.c as a
        0 package p import data.a as b import data.a
        0 package p import data.a || package p import data.a
        -- .. or the NAME of a RULE of this package (one of another module with the same PATH, too)
        1 package p ¿import data.a a := 1
        1 package p ¿import data.b as a a := 1
        0 package p import data.a as b a := 1
        1 package p a := 1 || package p ¿import data.a
        1 package p ¿import data.a || package p a := 1
        0 package p a := 1 || package q import data.a
        0 package p a := 1 || package p.q import data.a
        0 package p.q a := 1 || package p import data.a
        -- A RULE or ALIAS named input or data is a CLASH
        1 package p ¿import data.input
        1 package p ¿import data.a as data
        1 package p import data.a ¿import input.data
        0 package p import data.input as a
        1 package p ¿input := 1
        1 package p a := 1 ¿data(x) := 1
        1 package p ¿default data := 1
        0 package p set := 1
        -- a PART of another sort (complete, function, set, object) than the first one of its rule (at the PART'S first byte)
        0 a := 1 a := 2 a if 1
        1 a := 1 ¿a(x) := 1
        1 a := 1 ¿a contains 1
        1 a := 1 ¿a[1] := 1
        1 a(x) := 1 ¿a := 1
        1 a(x) := 1 ¿a contains 1
        1 a(x) := 1 ¿a[1] := 1
        1 a contains 1 ¿a := 1
        1 a contains 1 ¿a(x) := 1
        1 a contains 1 ¿a[1] := 1
        1 a[1] := 1 ¿a := 1
        1 a[1] := 1 ¿a(x) := 1
        1 a[1] := 1 ¿a contains 1
        0 a := 1 b contains 1 c(x) := 1 d[1] := 1
        0 a contains 1 a contains 1
        0 a[1] := 1 a[1] := 2
        1 a := 1 a if true ¿a contains 1 a := 1
        1 package p a := 1 || package p ¿a contains 1
        0 package p a := 1 || package q a contains 1
        -- or a FUNCTION with another number of PARAMETERS
        0 a(x) := 1 a(y) := 2
        1 a(x) := 1 ¿a(x, y) := 1
        1 a(x, y, z, w) := 1 a(x, y, z, v) := 1 ¿a(x, y, z) := 1
        -- a second default, a default of a rule that isn't complete
        0 default a := 1
        0 default a := 1 a := 2
        0 a := 2 default a := 1
        1 default a := 1 ¿default a := 1
        1 a := 0 default a := 1 a := 2 ¿default a := 3
        1 package p default a := 1 || package p ¿default a := 1
        1 a := 0 a := 1 default a := 2 a := 3 ¿default a := 4
        1 b := 1 default b := 1 a := 0 a := 1 default a := 2 ¿default a := 3
        0 a := 0 b := 1 a := 1 default b := 2 a := 2 default a := 3
        1 package p a := 0 || package p b := 1 default a := 1 || package q default a := 1 || package p a := 2 ¿default a := 2
        0 package p a := 0 || package q default a := 1 || package p default a := 2
        1 a contains 1 ¿default a := 1
        1 a(x) := 1 ¿default a := 1
        1 a[1] := 1 ¿default a := 1
        -- all PARTS are compared with the first one that is no default, if there is one
        1 ¿default a := 1 a contains 1
        1 ¿default a := 1 a(x) := 1 a := 2
        1 default b := 1 ¿default a := 1 a[1] := 1 b := 1
        1 package p ¿default a := 1 || package p a contains 1
        -- a rule whose path is that of a package, or a beginning of it (at the PART)
        1 package p ¿a := 1 || package p.a
        1 package p.a || package p ¿a contains 1
        1 package p ¿a := 1 || package p.a.b.c
        1 package p.a ¿b(x) := 1 || package p.a.b.c
        0 package p b := 1 || package p.a
        0 package p.a a := 1 || package p b := 1
        1 package p.a p := 1 || package q || package p ¿default a := 1
        0 package p.a.b c := 1 || package p.a d := 1 || package p e := 1
        -- modules in order, then texts
        1 package p a := 1 ¿a contains 1 input := 1
        1 package p a := 1 ¿a contains 1 || package p import data.c import data.c
        1 package p ¿import data.b a := 1 a contains 1 b := 2
        """);
  }

  private static void names() {
    faults("""
        -- A NAME that begins a REFERENCE is: input; data
        0 a := input
        0 a := input.b[0]
        0 a := data.b.c
        0 a := data["b"]
        -- a variable of this BODY, or of one around it, or a PARAMETER
        0 a := x if { x := 1 }
        0 a := [x | x := 1]
        0 a := [y | x := 1; y := [x | true]]
        0 f(x) := x
        0 f(x) := 1 if { x } else := x if { not x }
        0 f([x, {"k": y}]) := [z | z := x + y]
        0 a if { every x in [1] { x == 1 } }
        2 a := ¿x
        2 a := x if { x := 1 } else := ¿x
        2 a := x if { x := 1 } else if ¿x
        2 a if { [x | x := 1] == ¿x }
        2 a if { ¿x == [x | x := 1] }
        2 a if { every x in [¿x] { true } }
        2 a if { every x in [1] { true }; ¿x }
        2 a if { y := [x | x := 1]; z := [¿x | true] }
        2 f(x) := 1 g(y) := ¿x
        2 f(x) := 1 f(y) := ¿x
        2 a := 1 if { x := 1 } a := ¿x
        2 o[x] := ¿y if { x := 1 }
        2 s contains ¿y if { x := 1 }
        -- an ALIAS of the module's
        0 package p import data.x a := x.y
        0 package p import input.x as z a := [z, z.y, z[0]]
        2 package p import data.x.y a := ¿x
        2 package p import data.x as z a := ¿x
        2 package p import data.x || package p a := ¿x
        -- the NAME of a RULE OF THE BUNDLE of the module's package
        0 a := b b := 1
        0 package p a := b || package p b := 1
        0 a := f.x f(x) := 1
        2 package p a := ¿b || package q b := 1
        2 package p.q a := ¿b || package p b := 1
        2 package p a := ¿p
        2 a := ¿count
        -- a CALL is of a FUNCTION of the package, if its PATH is one NAME
        0 f(x) := 1 a := f(1)
        0 package p f(x) := 1 || package p a := f(1)
        2 package p f(x) := 1 || package q a := ¿f(1)
        2 f := 1 a := ¿f(1)
        2 f contains 1 a := ¿f(1)
        2 f[1] := 1 a := ¿f(1)
        2 a if { f := 1; ¿f(1) }
        -- .. of one with a path told from data or an ALIAS on (the rest of the PATH behind)
        0 package p f(x) := 1 a := data.p.f(1)
        0 package p f(x) := 1 || package q a := data.p.f(1)
        0 package p.q f(x) := 1 || package r import data.p a := p.q.f(1)
        0 package p.q f(x) := 1 || package r import data.p.q as z a := z.f(1)
        0 package p.q f(x) := 1 || package r import data.p.q.f as g a := g(1)
        2 package p f(x) := 1 || package q a := ¿p.f(1)
        2 package p f := 1 || package q a := ¿data.p.f(1)
        2 package p f(x) := 1 || package q a := ¿data.p.g(1)
        2 package p f(x) := 1 || package q a := ¿data.p(1)
        2 package p f(x) := 1 || package q a := ¿data(1)
        2 package p f(x) := 1 || package q a := ¿data.f(1)
        2 package p f(x) := 1 || package q import input.p a := ¿p.f(1)
        2 a := ¿input.f(1)
        -- or else of a BUILT-IN of this name
        0 a := count([1])
        0 a := strings.reverse("a")
        0 package p import data.strings a := strings.reverse("a")
        0 package p import data.q as strings a := strings.reverse("a") || package q f(x) := 1
        0 count(x, y) := 1 a := count(1, 2)
        0 package p import data.q as strings a := strings.reverse(1, 2) || package q reverse(x, y) := 1
        0 count := 1 a := count([1])
        2 a := ¿strings([1])
        2 a := ¿strings.count.x([1])
        2 a := ¿reverse("a")
        2 a := ¿Count([1])
        2 a := ¿data.count([1])
        -- another number of operands than it takes (at its first byte)
        2 a := ¿count()
        2 a := ¿count([1], [2])
        2 a := (1 + ¿strings.count("a"))
        2 f(x) := 1 a := ¿f()
        2 f(x) := 1 a := ¿f(1, 2)
        2 f(x, y, z, w) := 1 a := ¿f(1, 2, 3)
        2 f(x, y, z, w) := 1 a := ¿f(1, 2, 3, 4, 5)
        0 f(x, y, z, w) := 1 a := f(1, 2, 3, 4)
        2 count(x, y) := 1 a := ¿count([1])
        -- everywhere in a RULE: heads, STEPS, operands, EXPRESSIONS behind as
        2 a := [1, ¿b]
        2 a := {¿b: 1}
        2 a := input[¿b]
        2 a := input[[¿b]]
        2 a := count(¿b)
        2 a := (1 + ¿b)
        2 a := (¿b)
        2 a := [1 | ¿b]
        2 a := {1: 2 | ¿b}
        2 s contains ¿b
        2 o[¿b] := 1
        2 o[1] := ¿b
        2 a if not ¿b
        2 a if some x in ¿b
        2 a if x := ¿b
        2 a if 1 = ¿b
        2 a if ¿b = 1
        2 a if every x in ¿b { true }
        2 a if every x in [1] { ¿b }
        2 a if 1 with input as ¿b
        2 a if 1 with input as 1 with input as ¿b
        2 a := 1 else := ¿b
        2 a := 1 else if ¿b
        -- _ anywhere but in PATTERNS, alone in a STEP [ _ ], and as, or within [ ] and behind : of, a side of = (either one), is FAULT 2 at it
        0 a if { _ := 1; [_, {1: _}] := 2; some _, [_] in [] }
        0 f(_, [_], {1: _}) := 1
        0 a := input[_].b[_]
        0 a if { _ = 1; 1 = _; [_] = input; input = {"k": [_, {1: _}]} }
        2 a := ¿_
        2 a := [¿_]
        2 a := {¿_: 1}
        2 a := {1: ¿_}
        2 a := ¿_.b
        2 a := ¿_[0]
        2 a := input[(¿_)]
        2 a := input[[¿_]]
        2 a := input[¿_ + 1]
        2 a := input[¿_.b]
        2 a := count(¿_)
        2 a := (¿_)
        2 a := (1 + ¿_)
        2 a if ¿_
        2 a if not ¿_
        2 a if ¿_ == 1
        2 a if { x := ¿_ }
        2 a if some x in ¿_
        2 a if some x in [¿_]
        2 a if every x in ¿_ { true }
        2 a if { (¿_) = 1 }
        2 a if { {¿_} = 1 }
        2 a if { {¿_: 1} = 1 }
        2 a if { 1 = {¿_: 1} }
        2 a if { [(¿_)] = 1 }
        2 a if { [¿_ + 1] = 1 }
        2 a if { [[¿_ | true]] = 1 }
        2 a if 1 with input as ¿_
        2 a if 1 with input as [¿_]
        4 f(¿{_: 1}) := 1
        """);
    world("{}", null, "package p f(x) := x a := 1");
    asks("""
        -- (In a QUERY: input, data, its variables.)
        x := 1; y := x => [1,1]
        x := data.p.a => [1]
        x := data.p.f(2) => [2]
        2 x := ¿a
        2 x := ¿f(1)
        2 x := ¿p.a
        2 x := ¿p.f(1)
        2 ¿x == 1
        2 ¿x.y := 1
        a := 5; p := 6 => [5,6]
        count := count([1]) => [1]
        """);
    world(null, null);
  }

  private static void declared() {
    faults("""
        -- VARIABLES are DECLARED: by some with names
        3 a if { some x, ¿x; x = 1 }
        3 a if { some x; some y, ¿x; [x, y] = [1, 2] }
        -- the NAMES (but _) that stand as a TERM alone, or within [ ] or behind : in { } of the TERMS of some .. in, or to the left of :=
        3 a if { x := 1; ¿x := 2 }
        3 a if { x := 1; [1, [¿x]] := 2 }
        3 a if { x := 1; {"k": {"l": ¿x}} := 2 }
        3 a if { x := 1; some ¿x in [] }
        3 a if { x := 1; some ¿x, _ in [] }
        3 a if { x := 1; some _, [¿x] in [] }
        3 a if { some x in []; ¿x := 2 }
        0 a if { _ := 1; _ := 2; some _, _ in [] }
        0 a if { x := 1; {(1): y} := 2; (1) := x }
        -- by every: for its LITERALS
        0 a if { every x in [1] { true }; every x in [2] { true } }
        3 a if { every ¿x in [1] { true }; x := 1 }
        0 a if { every x in [1] { true }; every x in [1] { true } }
        3 a if { x := 1; every ¿x in [1] { true } }
        3 a if { every x in [1] { ¿x := 1 } }
        3 a if { every x in [1] { every ¿x in [1] { true } } }
        3 a if { every ¿x in [1] { true }; x := 1 }
        -- and PARAMETERS' likewise, for all BRANCHES of the PART
        3 f(x) := 1 if { ¿x := 1 }
        3 f(x) := 1 if { true } else := 2 if { ¿x := 1 }
        3 f([x]) := [x | ¿x := 1]
        3 f({1: x}) := 1 if { some ¿x in [] }
        0 f(x) := 1 f(y) if { x := y }
        -- .. and is so already in this BODY or one around it
        3 a if { x := 1; y := [z | ¿x := 1; z := 2] }
        3 a := [y | y := [z | z := [y | ¿y := 1]]]
        0 a if { y := [x | x := 1]; z := [x | x := 1] }
        0 a := x if { x := 1 } else := x if { x := 2 }
        0 a := [x | x := 1] b := [x | x := 1]
        -- the fault is at the inner one, in one BODY at the second one by place; what a BODY declares counts wherever it stands
        3 a if { y := [1 | ¿x := 1]; x := 2 }
        3 a if { every ¿x in [1] { true }; some x; x = 1 }
        3 a := [1 | ¿x := 1] if { x := 2 }
        3 a if { [x] := [1]; ¿x := 2 }
        -- (but a variable twice within one TERM, or twice in PARAMETERS, is that, too)
        3 a if { [x, ¿x] := [1, 1] }
        3 a if { {1: x, 2: [¿x]} := 1 }
        3 a if { some x, ¿x in [] }
        3 a if { some [x, ¿x] in [] }
        3 f(x, ¿x) := 1
        3 f([x], {1: ¿x}) := 1
        3 a if { every x, ¿x in [] { true } }
        -- or is input, data, an ALIAS, or the NAME of a RULE of this package
        3 a if { ¿input := 1 }
        3 a if { some ¿data in [] }
        3 f(¿input) := 1
        4 a if { ¿data.x := 1 }
        3 a if { every ¿data in [] { true } }
        3 package p import data.q.x a if { ¿x := 1 }
        3 package p import data.q as x a if { some y, ¿x; y = 1 }
        0 package p import data.q as x a if { q := 1 }
        3 a if { ¿a := 1 }
        3 a if { ¿b := 1 } b := 2
        3 f(¿f) := 1
        3 package p a if { ¿b := 1 } || package p b := 1
        0 package p a if { b := 1 } || package q b := 1
        0 package p a if { x := 1 } || package p import data.x
        0 a if { count := 1; set := 2 }
        """);
    StringBuilder thirty = new StringBuilder();
    for (int i = 0; i < 30; i++) thirty.append("v").append(i).append(" := 1; ");
    String twenty = thirty.substring(0, thirty.indexOf("v20"));
    String nine = "a := 1; b := 1; c := 1; d := 1; e := 1; g := 1; h := 1; i := 1; j := 1";
    String last = thirty.toString().replace("v29", HERE + "v29");
    faults(("""
        -- a 31st variable of a PART (PARAMETERS with them, by places)
        0 a if { THIRTYtrue }
        3 a if { THIRTY¿w := 1 }
        3 a if { THIRTYsome ¿w; w = 1 }
        3 a if { THIRTYevery ¿w in [] { true } }
        3 a if { THIRTY¿x := [1 | y := 1] }
        3 a if { THIRTY[1, ¿w] := [1, 2] }
        3 a := [1 | w := 1] if { LASTtrue }
        3 f(w) if { TWENTYNINE; ¿k := 1 }
        0 f(w) if { TWENTYNINE }
        3 k if { TWENTYtrue } else if { NINE; l := 1; ¿m := 1; n := 1 }
        0 k if { TWENTYtrue } else if { NINE; l := 1 }
        0 a if { TWENTYtrue } a if { TWENTYtrue }
        0 a if { THIRTY_ := 1; some _ in [] }
        """).replace("THIRTY", thirty).replace("TWENTY", twenty).replace("NINE", nine).replace("LAST", last));
    d = new Desk();
    same("30 variables of a QUERY", d.number(thirty + "true"), "1");
    d = new Desk();
    same("31 variables of a QUERY", d.number(thirty + "w := 1"), "3@" + thirty.length());
    String within = "x := [y | " + twenty + "y := 1]; " + nine;
    same("31 with those within", d.number(within), "3@" + within.lastIndexOf("j"));
  }

  private static void patterns() {
    faults("""
        -- PATTERNS are: a variable; _; a CONSTANT; [ PATTERNS ]; { CONSTANT : PATTERN, .. }
        0 a if { x := 1; _ := 2; 3 := 3; [y, [_, "z"]] := 4; {1: w, "k": {[2]: _}} := 5 }
        0 a if { (1) := 1; [(null)] := 1; {(1): v} := 1; {1, 2} := 1; set() := 1; {} := 1; [] := 1; ({1}) := 1 }
        0 f(null, -1.5, {1, {2}}, [set(), {"a": [x]}]) := x
        -- FAULT 4 is at the first byte of the outermost TERM that must be a PATTERN
        4 a if { ¿input.x := 1 }
        4 a if { ¿input[0] := 1 }
        4 a if { ¿data.x := 1 }
        4 a if { ¿count([1]) := 1 }
        4 a if { ¿(input) := 1 }
        4 a if { ¿{x} := 1 }
        4 a if { ¿{1, input.x} := 1 }
        4 a if { ¿[1, [2, {"k": input.x}]] := 1 }
        4 a if { ¿[x, 1 + 1] := 1 }
        4 a if { ¿{input.x: 1} := 1 }
        4 a if { ¿{1: 1 + 1} := 1 }
        4 a if { ¿[1 | true] := 1 }
        4 a if { ¿{1: 2 | true} := 1 }
        4 a if { ¿(1 + 1) := 1 }
        4 a if { some ¿input.x in [] }
        4 a if { some x, ¿[input.x] in [] }
        4 a if { some ¿(1 == 1), x in [] }
        4 f(¿input.x) := 1
        4 f(x, ¿[input.x]) := 1
        4 f(x, ¿(1 + 1)) := 1
        -- other TERMS in ( ) are no PATTERNS
        4 a if { ¿[(input)] := 1 }
        4 a if { ¿[(x)] := 1 }
        4 a if { ¿([_, 1]) := 1 }
        -- none of its NAMES is declared then
        4 a if { ¿[x, 1 + 1] := 1; x == 1 }
        4 f(¿[x, 1 + 1]) := x
        -- (At one place the least number.)
        2 a if { ¿x.y := 1 }
        2 a if { ¿f(1) := 1 }
        2 a if { ¿count([1], 2) := 1 }
        2 f(¿x.y) := 1
        4 a if { ¿[x.y] := 1 }
        """);
    world("{}", null);
    asks("""
        -- In { : } EQUAL keys of a PATTERN count as one key, both must MATCH
        {1: x, 1.0: y} := {1: 2} => [2,2]
        {1: x, 1: 2} := {1: 2} => [2]
        {1: x, 1: 3} := {1: 2} =>
        {1: x, 1: y} := {1: 2, 2: 3} =>
        {1: x, 2: y, 1: z} := {1: 2, 2: 3} => [2,3,2]
        {1: x, 2: y} := {1: 2} =>
        """);
    world(null, null);
  }

  private static void targets() {
    faults("""
        -- one below the path of a RULE OF THE BUNDLE
        5 b := 1 a if { 1 with ¿data.p.b.c as 1 }
        5 b := 1 a if { 1 with input as 1 with ¿data.p.b.c.d as 1 }
        5 f(x) := 1 a if { 1 with ¿data.p.f.c as 1 }
        0 b := 1 a if { 1 with data.p.b as 1 }
        0 f(x) := 1 a if { 1 with data.p.f as 1 }
        0 b := 1 a if { 1 with data.p.c.b as 1 }
        0 b := 1 a if { 1 with input.p.b.c as 1 }
        5 package p a if { 1 with ¿data.q.b.c as 1 } || package q b := 1
        -- or that is a beginning of a package's path or it
        5 a if { 1 with ¿data.p as 1 }
        5 package p.q a if { 1 with ¿data.p as 1 }
        5 package p.q a if { 1 with ¿data.p.q as 1 }
        5 package p a if { 1 with ¿data.q.r as 1 } || package q.r.s
        0 package p a if { 1 with data.q.t as 1 } || package q.r.s
        0 package p a if { 1 with data.q.r.s.t as 1 } || package q.r.s
        0 package p a if { 1 with data.pp as 1 }
        -- (at its first byte, behind with), in the order of places with 2, 3, 4
        2 a if { ¿b with data.p as 1 }
        2 a if { 1 with input as ¿b with data.p as 1 }
        5 a if { 1 with ¿data.p as b }
        5 a if { not [1 | 1 with ¿data.p as 1] }
        3 a if { every ¿x in [] { 1 with data.p as 1 }; x := 1 }
        """);
  }

  private static String row(int n, String... links) {
    StringBuilder s = new StringBuilder("r0(x) := 1\n");
    for (int i = 1; i < n; i++) s.append("r").append(i).append(links[i % links.length].replace("@", "" + (i - 1))).append("\n");
    return s.toString();
  }

  private static void depends() {
    faults("""
        -- a RULE OF THE BUNDLE that DEPENDS on itself, the first by its number (at its first PART)
        6 ¿a := a
        6 b := 1 ¿a if c c if a
        6 ¿c if a a if c
        6 b := a a := 1 ¿c := d d := c
        6 b := a ¿a := 1 a := 2 if a
        6 ¿default a := 1 a := 2 if a
        6 package p ¿a := 1 || package p a := 2 if a
        6 ¿f(x) := f(x)
        6 ¿f(x) := 1 if g(x) g(x) := 1 if f(x)
        6 ¿s contains s
        6 ¿o[1] := o
        6 ¿a := [x | x := a]
        6 ¿a if every x in [] { a }
        6 ¿a if not a
        6 ¿a if { 1 with input as a }
        6 ¿a if { a with data.p.a as 1 }
        6 ¿a if { a with input as 1 }
        6 ¿f(x) := 1 a := b if { f(1) } f(x) := a b := 1
        -- a REFERENCE to data, by its beginning (data and its STEPS as far as they are . NAME or [ string ]), reads each rule whose path is a beginning of this one, or begins with it
        6 ¿a := data.p.a
        6 ¿a := data.p.a.b.c
        6 ¿a := data["p"].a
        6 ¿a := data[`p`]["a"][0]
        6 ¿a := data.p
        6 ¿a := data
        6 ¿a := data.p[input]
        6 ¿a := data.p[1].b
        6 ¿a := data["p"][("a")]
        6 ¿a := data[_].b
        6 ¿a := data[input].b
        6 ¿a := data[("q")]
        0 a := data.p.b
        0 a := data.q
        0 a := data.p.aa
        0 a := data.p["b"][_]
        0 a := data["p"].b[data.q]
        0 a := data.pp[_]
        6 ¿a := 1 if data.q[data.p.a]
        -- reads each rule (FUNCTIONS, too)
        6 ¿f(x) := data.p.f
        6 ¿f(x) := data.p[x]
        6 ¿f(x) := 1 if { a } a := data.p
        -- ALIASES and NAMES of rules likewise
        6 package p import data.p.a as b ¿a := b.c
        6 package p import data.p as q ¿a := q.a
        6 package p import data.p as q ¿a := q[input]
        0 package p import data.p as q a := q.b
        0 package p import input.p as q a := q.a
        6 package p.q import data.p ¿a := p.q.a
        6 package p.q import data.p ¿a := p[input]
        0 package p.q import data.p a := p.a
        -- a CALL reads its FUNCTION
        6 ¿f(x) := data.p.f(x)
        6 package p import data.p.f as g ¿f(x) := g(x)
        6 package p import data.p as q ¿f(x) := q.f(x)
        0 f(x) := count([x]) count := 1
        """);
    for (int n = 12; n <= 13; n++) {
      String calls = row(n, "(x) := r@(1)");
      String data = row(n, "(x) := data.p.r@");
      String names = row(n, " := r@.x");
      for (String s : new String[] {calls, data, names}) {
        if (n == 12) {
          right(s, 12);
          rules("s := 1\n" + s + "t(x) := [r11 | true]\n", 7, 7 + s.length());
          rules("t if { true with input as data.p.r11 }\n" + s, 7, 0);
          right("t if { true with data.p.r11 as 1 }\n" + s, 13);
          rules("s := t\nt if not r11\n" + s, 7, 0);
          rules("t if not r11\ns := t\n" + s, 7, 0);
        } else {
          rules(s, 7, s.indexOf("r12"));
        }
      }
    }
    rules("s := r12\n" + row(13, "(x) := r@(1)") + "c := c\n", 6, 9 + row(13, "(x) := r@(1)").length());
  }

  /** "Then, ..": 1 ahead of all, 2 to 5 by places, 6, 7, 8, 9. */
  private static void kinds() {
    String[] bad = {"", "a := 1\n¿a contains 2\n", "b := ¿zz\n", "c if { x := 1; ¿x := 2 }\n", "d if { ¿{y} := 1 }\n",
      "e if { input.x with ¿data.p.k.x as 1 }\n", "¿g := g\n", row(12, "(x) := r@(1)") + "¿r12 := r11(1)\n", "h if { ¿some x; true }\n", "i := abs(¿\"x\")\n"};
    String end = "k := 1\n";
    for (int one = 1; one <= 9; one++) {
      for (int two = 1; two <= 9; two++) {
        if (one == two) continue;
        boolean places = one >= 2 && one <= 5 && two >= 2 && two <= 5;
        int first = places ? one : Math.min(one, two);
        String s = first == one ? bad[one] + bare(bad[two]) : bare(bad[one]) + bad[two];
        rules(bare(s + end), first, s.indexOf(HERE));
      }
    }
    faults("""
        -- rules in order of modules and texts, each from its first byte on, the first that is met
        2 package p a := 1 b := ¿c || package p d := e
        2 package p a := 1 || package p d := ¿e
        -- rules in order, PART by PART: by the numbers of RULES OF THE BUNDLE
        8 a := 1 b if { some x; true } a if { ¿some x; true }
        8 package p a := 1 b if { ¿some x; true } || package p c if { some x; true }
        8 package p a := 1 b if { some x; true } || package p a if { ¿some x; true }
        9 a := 1 b := abs("x") a := abs(¿"y")
        9 package p b := abs(¿"x") || package p a := abs("x")
        """);
  }

  private static void unsafe() {
    faults("""
        -- first the BODY is put in order: a LITERAL that can't be put in order (at it)
        8 a if { some x; ¿x > 1 }
        8 a if { ¿x := y; y := x }
        8 a if { true; ¿x := y + 1; y := x; true }
        8 a if { some x, y; input.z; ¿x > 1; y > 1 }
        -- a LITERAL some with names, one of which is not KNOWN behind all LITERALS of its BODY
        8 a if { ¿some x; true }
        8 a if { some x; ¿some y, z; x = 1; z = 1 }
        8 a if { ¿some x; true; some y; true }
        0 a if { x = 1; some x }
        0 a if { some x; input[x] }
        8 a if { ¿some x; [y | y := 1] == [1] }
        8 a if { some x; ¿[y | y := x] == [1] }
        -- a TERM, or ITEM, that isn't CLOSED (at it)
        8 a := input[x] if { ¿some x; true }
        8 a := [input[x] | ¿some x; true]
        """);
    faults("""
        -- PARAMETERS', the NAMES of an every in its own LITERALS, those of BODIES around, are KNOWN from the beginning on
        0 f(x) if { y := x }
        0 f([x]) := (x + 1)
        0 a if { every x, y in [1] { x == y; z := x } }
        0 a if { x := [y | y := z]; z := 1 }
        0 a := [y | y := x] if { x := 1 }
        0 a if { every y in input { y == x }; x := 1 }
        -- READY: each variable that is met is KNOWN, or stands alone in a STEP [ NAME ] (it is KNOWN then from there on)
        0 a if { some x; input[x] }
        0 a if { some x; input[x][x] }
        0 a if { some x; input[x] == x }
        8 a if { some x; ¿x == input[x] }
        0 a if { some x; input[x] + x > 1 }
        8 a if { some x; ¿x + input[x] > 1 }
        8 a if { some x; ¿input[x + 1] }
        8 a if { some x; ¿input[(x)] }
        8 a if { some x; ¿input[[x]] }
        8 a if { some x; ¿x[0] }
        8 a if { some x; ¿x.y }
        8 a if { some x; ¿x }
        0 a if { some x, y; input[x].z[y]; x == y }
        0 a if { some x; count(input[x]) == x }
        0 a if { some x; [input[x], x] == 1 }
        8 a if { some x; ¿[x, input[x]] == 1 }
        0 a if { some x; {input[x]: x} == 1 }
        8 a if { some x; ¿{x: input[x]} == 1 }
        0 a if { some x; input[input[x]] == x }
        0 a if { some x; (input[x]) }
        -- of a COMPREHENSION if all variables of BODIES around it, that are in it, are KNOWN
        8 a if { some x; ¿[1 | input[x]] == 1 }
        8 a if { some x; ¿[input[x] | true] == 1 }
        8 a if { some x; ¿[1 | [2 | x > 1]] == 1 }
        8 a if { some x; ¿[1 | true with input as x] == 1 }
        0 a if { some x; input[x] == [x | true] }
        8 a if { some x; ¿[x | true] == input[x] }
        0 a if { some x; x = 1; [x | input[x]] == 1 }
        -- CLOSED if it is READY without making one KNOWN (_ may stand in STEPS)
        0 a if { not input[_] }
        8 a if { some x; ¿not input[x] }
        0 a if { some x; not input[x]; input.y[x] }
        0 a := input[_][_]
        -- some .. in: its EXPRESSION, READY; the variables that it declares are KNOWN then
        0 a if { y := x; some x in input }
        0 a if { some x in input[y]; some y }
        8 a if { ¿some x in [x] }
        8 a if { ¿some x in y; some y in x }
        0 a if { some k, [v, {1: w}] in input; k + v + w == 1 }
        -- TERM := EXPRESSION: likewise
        0 a if { y := x; x := 1 }
        0 a if { x := input[y]; y2 := y; some y }
        8 a if { ¿x := x + 1 }
        8 a if { ¿[x, y] := [y, 1] }
        -- EXPRESSION = EXPRESSION: the left one READY, and then the right one MATCHES; or else the right one READY, and then the left one MATCHES
        0 a if { some x; x = 1 }
        0 a if { some x; 1 = x }
        8 a if { some x, y; ¿[x, 1] = [2, y]; x == y }
        8 a if { some x; ¿x = x }
        8 a if { some x, y; ¿x = y }
        8 a if { some x, y; ¿[x, 1] = [y, 1] }
        0 a if { some x, y; [x, 1] = [y, 1]; y = 3 }
        0 a if { some x; input[x] = x }
        0 a if { some x; x = input[x] }
        8 a if { some x; ¿[x] = [[x]] }
        8 a if { some x, y; ¿[input[x], y] = [x, 1] }
        8 a if { some x, y; ¿[input[x], y] = x }
        8 a if { some x, y; ¿[input[x], y] = [1, x] }
        8 a if { ¿_ = _ }
        8 a if { ¿[_] = [_] }
        0 a if { [_] = [1] }
        0 a if { 1 = _ }
        -- To MATCH: a variable alone, _, [ ] or { : } whose elements, values, MATCH and whose keys are READY; or else an EXPRESSION that is READY
        0 a if { some x, y; [x, {"k": [y, _]}] = input }
        0 a if { some x; {"k": x} = input }
        8 a if { some x; ¿{x: 1} = input }
        8 a if { some x; ¿{x} = input }
        8 a if { some x; ¿(x) = input }
        8 a if { some x; ¿[x + 1] = input }
        8 a if { some x; ¿x.y = input }
        0 a if { some x; [x, x + 1] = input }
        8 a if { some x; ¿[x + 1, x] = input }
        0 a if { some x; {input.y[x]: x} = input }
        0 a if { some x, y; {input.y[x]: y} = input }
        0 a if { some x, y; input = {input.y[x]: y} }
        0 a if { some x, y; [input[x], y] = input }
        8 a if { some x, y; ¿{input.y[x]: y + 1} = input }
        8 a if { some x, y; ¿[input[x] + y, 1] = input }
        0 a if { some x; {1: x, x: 2} = input }
        8 a if { some x; ¿{x: 2, 1: x} = input }
        0 a if { some x; [input[x]] = [1] }
        0 a if { some x; [1] = [input[x]] }
        -- not: its EXPRESSION is CLOSED
        0 a if { not x == 1; x := 1 }
        8 a if { some x; ¿not x; x > 1 }
        -- every: its EXPRESSION is CLOSED, and so are all variables of BODIES around that are in its LITERALS
        0 a if { every y in [x] { y == z }; x := 1; z := 2 }
        8 a if { some x; ¿every y in input[x] { true } }
        8 a if { some x; ¿every y in input { input[x] } }
        8 a if { some x; ¿every y in input { [1 | x == 1] } }
        8 a if { some x; ¿every y in input { true with input as x } }
        0 a if { every y in input { some x; input[x] } }
        -- Besides, all EXPRESSIONS behind as are CLOSED, ahead of all else
        8 a if { some x; ¿input[x] with input as x }
        8 a if { some x; ¿input.y with input as input[x] }
        8 a if { some x; ¿input.y with input as 1 with input as x }
        8 a if { some x; ¿some x2 in input[x] with input as x }
        0 a if { x = 1; some x; input.y with input as x }
        8 a if { ¿x := 1 with input as x }
        8 a if { ¿every y in [1] { true } with input as x; some x in y2; y2 := x }
        0 a if { input.y with input as input[_] }
        -- a BODY is put in order wholly, then those within it, by their places, each with what is within it
        8 a if { x := [1 | some y; y > 1]; ¿z := w; w := z }
        8 a if { x := [1 | some y; ¿y > 1]; z := [1 | some y; y > 1] }
        8 a if { x := [1 | z := [1 | some y; ¿y > 1]; true]; w := [1 | some y; y > 1] }
        8 a if { x := [1 | z := [1 | some y; y > 1]; some y2; ¿y2 > 1] }
        8 a if { z := [1 | some y; ¿y > 1]; x := 1; every v in [1] { some y; y > 1 } }
        8 a if { every v in [1] { some y; ¿y > 1 }; z := [1 | some y; y > 1] }
        8 a := [1 | some y; ¿y > 1] if { x := [1 | some y; y > 1] }
        8 a := [1 | some y; y > 1] if { some x; ¿x > 1 }
        8 a if { true } else := [1 | some y; ¿y > 1] if { x := [1 | some y; y > 1] }
        8 a if { some x; ¿x > 1 } else := 2 if { some x; x > 1 }
        8 o[[1 | some y; ¿y > 1]] := [1 | some y; y > 1]
        -- Of a STEP [ NAME ] a variable of this BODY alone becomes KNOWN; others are KNOWN there
        0 a if { some x; x = 1; y := [1 | input[x]] }
        8 a if { some x; ¿y := [1 | input[x]] }
        """);
    asks("""
        -- A QUERY has the FAULTS 2, 3, 4, 5, 8, 9 (MODULE -1)
        8 some x; ¿x > 1
        8 ¿some x
        8 x := [y | some y; ¿y > 1]
        9 x := abs(¿"x")
        8 y := abs("x"); ¿some x
        3 x := abs("x"); ¿x := 1
        4 ¿input.x := 1
        true with data.x as 1 => []
        """);
    d = new Desk();
    d.mods("package p a := 1");
    asks("5 true; true with ¿data.p as 1");
    same("MODULE of a QUERY'S fault", d.h().fault(1), -1);
  }

  /** order(): "Again and again the first LITERAL, in the order of the text, that is READY .., is the next one." */
  private static void orders() {
    order("true; true; true", "0 1 2");
    order("x := y; y := z; z := 1", "2 1 0");
    order("x := y; z := 1; y := z; true", "1 2 0 3");
    order("not input[x]; some x in [1]; y := x", "1 0 2");
    order("a == 1; b == 1; a := b; b := 1; true", "3 1 2 0 4");
    order("some x; x > 1; input[x]; true", "0 2 1 3");
    order("x = y; y = z; z = 1; some x, y, z", "2 1 0 3");
    order("every e in [x] { e == y }; x := 1; true; y := 2", "1 2 3 0");
    order("true with input as x; x := 1", "1 0");
    order("1", "0");
    // What is not READY makes nothing KNOWN.
    order("some x, y; input[x] == y; z := x; y = 1", "0 3 1 2");
    order("some x, y; [input[x], y] = [x, 1]; z := y; x = 2; y = 3", "0 3 1 2 4");
    order("some x, y; y == input[x]; z := x; input[x] == y; y = 1", "0 4 1 2 3");
    order("[x] = [y]; [y] = [1]; some x; some y", "1 0 2 3");
  }

  private static void order(String q, String due) {
    ready(q.length(), 20);
    int n = d.prepare(q);
    int size = due.split(" ").length;
    StringBuilder s = new StringBuilder();
    for (int k = 0; k < size; k++) s.append(k > 0 ? " " : "").append(d.h().order(n, k));
    same("order of " + q, s, due);
    same("behind the last of " + q, d.h().order(n, size), -1);
    same("ahead of the first of " + q, d.h().order(n, -1), -1);
    d.h().release(n);
  }

  /** "A BUNDLE is made of the DRAFT": rules, their numbers, PARTS and places. */
  private static void bundles() {
    d = new Desk();
    same("rules", d.mods("package q b := 1 a contains 1", "package p a := c b(x) := x c := b(1)",
        "package q default c := 1 b := 2 a contains b", "package r b[1] := data.q"), "7");
    // Its sort, MODULE, PLACE, how many PARTS, on how many rules it DEPENDS.
    String[] due = {"0 0 10 2 0", "2 0 17 2 1", "0 1 10 1 2", "1 1 17 1 0", "0 1 27 1 1", "0 2 10 1 0", "3 3 10 1 3"};
    for (int r = 0; r < 7; r++) {
      StringBuilder s = new StringBuilder();
      for (int what = 0; what < 5; what++) s.append(what > 0 ? " " : "").append(d.h().rule(r, what));
      same("rule " + r, s, due[r]);
    }
    same("modules in the DRAFT", d.h().count(0), 4);
    same("a fifth module", d.module("package p"), PolicyHouse.FULL);
  }

  public static void main(String[] args) {
    clashes();
    names();
    declared();
    patterns();
    targets();
    depends();
    kinds();
    unsafe();
    orders();
    bundles();
    Desk.end("checks");
  }
}
