// Part IV of the document: WAYS of expressions and literals, to MATCH, functions, documents, RESULTS.
public final class PolicyHouseWays extends Sheet {
  private static final String DATA = "{\"a\":[10,20,30],\"o\":{\"x\":1,\"y\":2},\"n\":null,\"f\":false,\"s\":\"str\",\"e\":[],\"eo\":{},"
      + "\"z\":0,\"d\":{\"d\":{\"d\":5}},\"r\":[[1,2],[3],[],4,\"5\",{\"k\":6}]}";

  private static void references() {
    world(DATA, "{\"l\":[1,2],\"m\":{\"k\":\"v\"}}");
    asks("""
        -- A REFERENCE: of input INPUT, of data THE TREE, of a variable its value; then STEP by STEP
        x := input => [{"l":[1,2],"m":{"k":"v"}}]
        x := input.m.k => ["v"]
        x := data.d.d.d => [5]
        x := data["d"]["d"].d => [5]
        x := data.d; y := x.d["d"] => [{"d":{"d":5}},5]
        -- in an array by a whole number 0 .. its size - 1 the element
        x := data.a[0] => [10]
        x := data.a[2] => [30]
        x := data.a[2.0] => [30]
        x := data.a[3] =>
        x := data.a[-1] =>
        x := data.a[0.5] =>
        x := data.a[0.000001] =>
        x := data.a[2.000001] =>
        x := data.a["0"] =>
        x := data.a[null] =>
        x := data.a[[0]] =>
        x := data.a.x =>
        x := data.a[4294967296] =>
        x := data.a[4294967297] =>
        x := data.a[2147483648] =>
        x := data.a[-4294967296] =>
        x := data.a[1000000000000] =>
        x := data.a[-1000000000000] =>
        x := data.e[0] =>
        -- in an object by a key its value
        x := data.o["x"] => [1]
        x := data.o.z =>
        x := data.o["X"] =>
        x := data.o[0] =>
        x := data.eo.x =>
        x := [o[k] | some k in [1, "1", [1], null, true, {1: 1}, {1.0}]]; o := {1: "n", "1": "s", [1]: "a", null: "z", true: "t", {1: 1}: "o", {1}: "e"} => [["n","s","a","z","t","o","e"],{null:"z",true:"t",1:"n","1":"s",[1]:"a",{1:1}:"o",{1}:"e"}]
        x := {1: "n", "1": "s"}; y := x[1.0] => [{1:"n","1":"s"},"n"]
        -- in a set by an element that element
        s := {1, "1", [1]}; x := s[1.0] => [{1,"1",[1]},1]
        s := {1, "1", [1]}; x := s[[1]] => [{1,"1",[1]},[1]]
        s := {1, "1", [1]}; x := s[2] =>
        s := set(); x := s[null] =>
        s := {"k"}; x := s.k => [{"k"},"k"]
        s := {[1, 2]}; x := s[[1, 2]][1] => [{[1,2]},2]
        -- else no WAY
        x := data.s[0] =>
        x := data.s.s =>
        x := data.z[0] =>
        x := data.n.x =>
        x := data.f[false] =>
        x := data.q =>
        x := data.q.r =>
        x := input.q =>
        x := input[0] =>
        -- By _, or a variable that isn't KNOWN: a WAY for each number, key, element (which is the variable's value then)
        x := data.a[_] => [10] [20] [30]
        some i; x := data.a[i] => [0,10] [1,20] [2,30]
        some k; x := data.o[k] => ["x",1] ["y",2]
        s := {"b", 1}; some e; x := s[e] => [{1,"b"},1,1] [{1,"b"},"b","b"]
        x := data.e[_] =>
        x := data.eo[_] =>
        x := data.s[_] =>
        x := data.n[_] =>
        x := data.z[_] =>
        x := data.f[_] =>
        x := data.r[_][_] => [1] [2] [3] [6]
        some i, j; x := data.r[i][j] => [0,0,1] [0,1,2] [1,0,3] [5,"k",6]
        some i; x := data.r[i][i] => [0,1]
        some i; data.a[i] == 20; x := data.a[i] => [1,20]
        z := 5; some i; data.a[i] == 20; x := data.a[i] => [5,1,20]
        some i, j; x := data.r[i][j]; y := data.r[j][i] => [0,0,1,1] [0,1,2,3] [1,0,3,2]
        x := [data.a[_] | true] => [[10,20,30]]
        -- STEPS by EXPRESSIONS behind others
        x := data.r[_][2 - 1] => [2]
        x := data.r[_][0 + 0] => [1] [3]
        some i; x := data.r[i][1 - 1] => [0,1] [1,3]
        x := data.r[1 - 1][0 + 1] => [2]
        x := data.r[count([1])][count([])] => [3]
        x := data.r[_][count([data.a[_]]) - 1] => [1] [3]
        x := data.r[data.z][data.z] => [1]
        x := data[concat("", ["a"])][1 + 1] => [30]
        x := data[_][1 + 0] => [20] [[3]]
        some k; x := data[k][1 + 0][0 + 0] => ["r",3]
        """);
    world("{}", null);
    asks("""
        -- of input INPUT (no WAY without one)
        x := input =>
        x := input.a =>
        x := input[_] =>
        not input => []
        x := [1 | input] => [[]]
        true with input as 1; x := input =>
        x := input with input as null => [null]
        x := data => [{}]
        x := data[_] =>
        """);
    world(null, null);
  }

  private static void makes() {
    world(DATA, null);
    asks("""
        -- What it is made of is gone through from the left, each in each WAY of what is ahead of it
        x := [data.a[_], data.o[_]] => [[10,1]] [[10,2]] [[20,1]] [[20,2]] [[30,1]] [[30,2]]
        x := [[data.a[_], data.o[_]] | true] => [[[10,1],[10,2],[20,1],[20,2],[30,1],[30,2]]]
        x := {data.o[_], data.o[_]} => [{1}] [{1,2}] [{2}]
        x := data.a[_] - data.a[_] => [-20] [-10] [0] [10] [20]
        some i; x := [data.a[i], i] => [0,[10,0]] [1,[20,1]] [2,[30,2]]
        x := [count([i]) | some i in [1, 2]] => [[1,1]]
        x := data.a[data.r[0][_]] => [20] [30]
        -- where that has none, what is behind it is not looked at
        x := [data.q, data.a[_]] => @ 1
        x := [data.a[_], data.q] => @ 1+3
        x := data.q + data.a[_] => @ 1
        x := count(data.q) + data.a[_] => @ 1
        x := {data.q: data.a[_]} => @ 1
        -- [ ] { }: the array, set, object of the values; no WAY if two EQUAL keys have values that are not EQUAL
        x := {1: 2, 1: 2.0} => [{1:2}]
        x := {1: 2, 1.0: 3} => @ 1
        x := {"a": data.a[_], "a": 20} => [{"a":20}]
        x := {[1]: {1}, [1]: {1, 1}} => [{[1]:{1}}]
        x := [{1: 2, 1: 3}, data.a[_]] => @ 1
        x := [] => [[]]
        x := {} => [{}]
        x := set() => [set()]
        -- A COMPREHENSION: of all WAYS of its LITERALS, and in these of its ITEM, or key and value, in order; always one WAY, but for such keys
        x := [y | some y in data.q] => [[]]
        x := {y | some y in data.q} => [set()]
        x := {y: y | some y in data.q} => [{}]
        x := [data.q | true] => [[]]
        x := [1 | false] => [[]]
        x := [y | some y in [3, 1, 3]] => [[3,1,3]]
        x := {y | some y in [3, 1, 3]} => [{1,3}]
        x := [data.a[_] + y | some y in [1, 2]] => [[11,21,31,12,22,32]]
        x := {data.o[_]: data.o[_] | true} =>
        x := {data.o[_]: 7 | true} => [{1:7,2:7}]
        x := {k: v | some k, v in data.o} => [{"x":1,"y":2}]
        x := {v: 1 | some v in [1, 1.0]} => [{1:1}]
        x := {1: v | some v in [1, 1.0]} => [{1:1}]
        x := {1: v | some v in [1, 2]} => @ 1+1+3+2
        x := [1 | x2 := 1; true; some y in [x2, x2]] => [[1,1]]
        -- WAYS may be alike
        x := [1 | some y in [7, 7]; true] => [[1,1]]
        some y in [7, 7]; x := 1 => [7,1]
        """);
    world(null, null);
  }

  private static void signs() {
    values("""
        -- + of two numbers; no WAY for other kinds, and where a number is out of bounds
        1000000000000 + 0 => 1000000000000
        999999999999.999999 + 0.000001 => 1000000000000
        1000000000000 + 0.000001 => nothing
        -1000000000000 + -0.000001 => nothing
        1000000000000 + 1000000000000 => nothing
        -1000000000000 + 1000000000000 => 0
        "a" + "b" => nothing
        1 + "b" => nothing
        [1] + [2] => nothing
        {1} + {2} => nothing
        1 + null => nothing
        true + 1 => nothing
        {} + {} => nothing
        -- - of two numbers, or sets (what is not in the second one)
        -1000000000000 - 0.000001 => nothing
        1000000000000 - -0.000001 => nothing
        1 - 1 => 0
        {1, 2, 3} - {2, 4} => {1,3}
        {1} - {1.0} => set()
        set() - {1} => set()
        {1} - set() => {1}
        {1} - 1 => nothing
        1 - {1} => nothing
        [1] - [1] => nothing
        {1: 2} - {1: 2} => nothing
        "a" - "a" => nothing
        -- * of two numbers, ROUNDED
        1000000 * 1000000 => 1000000000000
        1000000 * -1000000 => -1000000000000
        1000000 * 1000000.000001 => nothing
        -1000000 * 1000000.000001 => nothing
        1000000000000 * 1 => 1000000000000
        1000000000000 * 1.000001 => nothing
        1000000000000 * 1000000000000 => nothing
        -1000000000000 * -1000000000000 => nothing
        1000000000000 * 0 => 0
        1000000000000 * 0.000001 => 1000000
        0.000001 * 0.000001 => 0
        0.001 * 0.001 => 0.000001
        0.0007 * 0.0007 => 0
        0.0008 * 0.0008 => 0.000001
        999999999999.999999 * 1.000001 => nothing
        999999.999999 * 999999.999999 => 999999999998
        3037000.49976 * 3037 => 9223370517.77112
        4294967296 * 4294.967296 => nothing
        -4294967296 * 4294.967296 => nothing
        4294967296 * -4294.967297 => nothing
        65536 * 281474976.710656 => nothing
        4294967296.000001 * 4294.967296 => nothing
        0.5 * 0.000001 => 0.000001
        {1} * {2} => nothing
        "a" * 2 => nothing
        -- / of two numbers, ROUNDED, none by 0
        1 / 0 => nothing
        0 / 0 => nothing
        1 / 0.000000 => nothing
        0 / 5 => 0
        1 / 0.000001 => 1000000
        1000000000000 / 0.999999 => nothing
        1000000000000 / 1.000001 => 999999000000.999999
        -1000000000000 / 0.5 => nothing
        1000000000000 / -1 => -1000000000000
        0.000001 / 1000000000000 => 0
        0.000001 / 0.000001 => 1
        500000 / 1000000000000 => 0.000001
        499999 / 1000000000000 => 0
        -500000 / 1000000000000 => -0.000001
        1000000 / 0.000001 => 1000000000000
        1000000.000001 / 0.000001 => nothing
        1000000000000 / 0.000001 => nothing
        288230376151.711744 / 0.000001 => nothing
        -288230376151.711744 / 0.000001 => nothing
        576460752303.423488 / 0.000002 => nothing
        18446744073.709551 / 0.000001 => nothing
        18446744073.709552 / 0.001 => nothing
        {1} / {1} => nothing
        -- % of two whole numbers, none by 0, with the first one's sign
        7 % 3 => 1
        7 % -3 => 1
        -7 % 3 => -1
        -7 % -3 => -1
        6 % 3 => 0
        -6 % 3 => 0
        0 % 3 => 0
        3 % 7 => 3
        7 % 0 => nothing
        0 % 0 => nothing
        1000000000000 % 999999999999 => 1
        -1000000000000 % 1000000000000 => 0
        7.5 % 2 => nothing
        7 % 2.5 => nothing
        7.0 % 2.0 => 1
        "7" % 2 => nothing
        {7} % {2} => nothing
        -- | and & of two sets
        ({1, 2} | {2, 3}) => {1,2,3}
        {1, 2} & {2, 3} => {2}
        (set() | set()) => set()
        {1} & {2} => set()
        ({1} | {1.0}) => {1}
        ({1} | [2]) => nothing
        ([1] | [2]) => nothing
        ({1: 2} | {3: 4}) => nothing
        (1 | 2) => nothing
        {1} & [1] => nothing
        1 & 1 => nothing
        true & true => nothing
        -- == != < <= > >= by THE ORDER, of all values: TRUE or FALSE
        [(1 == 1), (1 == 2), (1 != 1), (1 != 2)] => [true,false,false,true]
        [(1 < 1), (1 < 2), (2 < 1)] => [false,true,false]
        [(1 <= 1), (1 <= 2), (2 <= 1)] => [true,true,false]
        [(1 > 1), (1 > 2), (2 > 1)] => [false,false,true]
        [(1 >= 1), (1 >= 2), (2 >= 1)] => [true,false,true]
        [(null < false), (false < true), (true < -1000000000000), (1000000000000 < ""), ("z" < []), ([[9]] < {}), ({9: 9} < set())] => [true,true,true,true,true,true,true]
        [(set() > {}), ({} > []), ([] > ""), ("" > 0), (0 > true), (true > false), (false > null)] => [true,true,true,true,true,true,true]
        -- in: whether it is EQUAL to an element of an array or set, or to a value of an object; FALSE of all else
        [(1 in [1]), (1.0 in [0, 1]), (1 in [[1]]), (1 in [])] => [true,true,false,false]
        [({2, 1} in {{1, 2}}), (1 in set()), ("a" in {"b", "a"})] => [true,false,true]
        [(1 in {1: 2}), (2 in {1: 2}), (2 in {})] => [false,true,false]
        [("a" in "abc"), (1 in 1), (null in null), (true in true)] => [false,false,false,false]
        """);
  }

  private static void literals() {
    world(DATA, null);
    asks("""
        -- some with names: one WAY
        some x; x = 1; x == 1 => [1]
        some x, y; [x, y] = [1, 2] => [1,2]
        -- some P in E: in each WAY of E, in order, a WAY for each element of an array or set, or value of an object, that P MATCHES
        some x in [3, 1, 3] => [1] [3]
        some x in {3, 1} => [1] [3]
        some x in data.o => [1] [2]
        some x in [] =>
        some x in {} =>
        some x in set() =>
        some x in "abc" =>
        some x in 5 =>
        some x in null =>
        some x in true =>
        some x in data.q =>
        some x in data.r[_] => [1] [2] [3] [6]
        some [x, y] in data.r => [1,2]
        some [x] in data.r => [3]
        some [] in data.r => []
        some {"k": x} in data.r => [6]
        some "5" in data.r => []
        some 7 in data.r =>
        some _ in [] =>
        some _ in [1, 2] => []
        y := [1 | some _ in [5, 6]] => [[1,1]]
        -- with two PATTERNS the first one MATCHES the number, key, or element
        some i, x in [7, 7] => [0,7] [1,7]
        some k, x in data.o => ["x",1] ["y",2]
        some e, x in {8, 9} => [8,8] [9,9]
        some 1, x in [7, 8, 9] => [8]
        some "y", x in data.o => [2]
        some 9, x in {8, 9} => [9]
        some [i, j], x in {[1, 2]: 3, 4: 5} => [1,2,3]
        some i, [i2, i3] in data.r => [0,1,2]
        some _, x in [5] => [5]
        -- P := E, E = E: each WAY of the one (III.), in which the other one MATCHES its value
        x := data.a[_] => [10] [20] [30]
        [x, _] := data.r[_] => [1]
        20 := data.a[_] => []
        25 := data.a[_] =>
        data.a[_] = 20 => []
        some x; data.a[_] = x => [10] [20] [30]
        x := 20; data.a[_] = x => [20]
        x := 20; x = data.a[_] => [20]
        data.a[_] = data.r[_] =>
        y := [1 | data.r[0][_] = data.r[0][_]] => [[1,1]]
        null := null => []
        false = false => []
        x := false => [false]
        -- not E: one WAY, if E has none whose value is not FALSE; else none
        not false => []
        not data.f => []
        not data.q => []
        not null =>
        not 0 =>
        not "" =>
        not [] =>
        not true =>
        not data.a[_] == 40 => []
        not data.a[_] == 30 =>
        not data.a[_] =>
        not data.e[_] => []
        -- every: in each WAY of E whose value is an array, set, or object: one WAY, if for each of its elements (values) its LITERALS have one at least
        every x in [] { false } => []
        every x in {} { false } => []
        every x in set() { false } => []
        every x in [1, 2] { x > 0 } => []
        every x in [1, 2] { x > 1 } =>
        every x in [1, 2] { x < 2 } =>
        every x in data.o { x < 3 } => []
        every x in data.o { x < 2 } =>
        every x in {1, 2} { x < 3 } => []
        every x in "abc" { true } =>
        every x in 5 { true } =>
        every x in null { true } =>
        every x in data.q { true } =>
        every x in [1, 2] { some y in [x, 5]; y == 5 } => []
        y := [1 | every x in data.r[_] { x }] => [[1,1,1,1]]
        y := [1 | every x in data.r[_] { x < 3 }] => [[1,1]]
        -- .. as the last NAME's value, and its number, key or element as the first of two
        every i, x in [5, 6] { x == i + 5 } => []
        every k, x in data.o { data.o[k] == x } => []
        every e, x in {5, 6} { e == x } => []
        every i, x in [5, 7] { x == i + 5 } =>
        every k, x in {"a": "a"} { k == x } => []
        every i, x in [10, 20, 30] { data.a[i] == x } => [] @ 1+4+3*4+1
        every i, x in [10, 20, 30] { data.a[i] == 10 } => @ 1+4+3*4
        every i, x in [20, 20, 30] { data.a[i] == x } =>
        z := 5; every i, x in [10, 20, 30] { data.a[i] == x } => [5]
        z := 5; every i, x in [20, 20, 30] { data.a[i] == x } =>
        z := 5; every i, x in [10, 20, 30] { i = z; x } =>
        every x in [0, 1] { data.a[x] == 10 } =>
        every i, x in [0, 1] { data.a[x] == 10 } =>
        every i, x in [0, 0] { data.a[x] == 10 } => []
        every x in [1, 2] { some y; [x, y] = [1, 5] } =>
        every x in [1, 1] { some y; [x, y] = [1, 5] } => []
        every i, x in [5, 5] { some y; [i, x, y] = [0, 5, 6] } =>
        every x in [0, 1] { y := [z | z := data.a[x]]; y == [10] } =>
        -- Another EXPRESSION: its WAYS whose values are not FALSE
        true => []
        null => []
        0 => []
        "" => []
        [] => []
        set() => []
        false =>
        data.f =>
        1 == 2 =>
        data.n => []
        y := [1 | data.a[_] > 10] => [[1,1]]
        z := [false, null, true, 0]; y := [1 | z[_]] => [[false,null,true,0],[1,1,1]]
        """);
    asks("""
        -- To MATCH a value: a variable that isn't KNOWN becomes it; _ any; a KNOWN one, .. if the value is EQUAL
        some x; x = 5 => [5]
        _ = 5 => []
        x := 5; x = 5.0 => [5]
        x := 5; x = 6 =>
        z := 1; x := 5; x = 5.0 => [1,5]
        z := 1; x := 5; x = 6 =>
        z := 1; x := 5; 6 = x =>
        some z, x; [z, x, x] = [1, 5, 5] => [1,5]
        some z, x; [z, x, x] = [1, 5, 6] =>
        some z, x; {1: z, 2: x, 3: [x]} = {1: 4, 2: 5, 3: [6]} =>
        some x; [x, x] = [5, 5] => [5]
        some x; [x, x] = [5, 6] =>
        some x, y; [x, y, x] = [5, 6, 5] => [5,6]
        -- and all other EXPRESSIONS, if in one of their WAYS, each of which is one, the value is EQUAL
        20 = data.a[_] => []
        y := [1 | some x; [x, data.r[0][_]] = [1, 2]] => [[1]]
        y := [1 | [data.z, data.n] = [0, null]] => [[1]]
        [1 + 1] = [2] => []
        [1 + 1] = [3] =>
        -- [ ] an array of as many elements that MATCH, in order
        [] = [] => []
        [] = {} =>
        [] = set() =>
        [] = "" =>
        [] := [1] =>
        [x] := [] =>
        [x] := [1, 2] =>
        [x, y] := {1, 2} =>
        [x, y] := {0: 1, 1: 2} =>
        [x, [y]] := [1, [2]] => [1,2]
        [x, [y]] := [1, 2] =>
        [1, x] := [1, 2] => [2]
        [1, x] := [3, 2] =>
        -- { : } an object with just those keys, their values MATCHING, in the order of the text
        {} = {} => []
        {} = [] =>
        {} = set() =>
        {} := {1: 2} =>
        {1: x} := {1: 2} => [2]
        {1: x} := {1: 2, 3: 4} =>
        {1: x, 3: y} := {1: 2} =>
        {1: x} := [0, 5] =>
        {1: x} := {1} =>
        {1: x} := {"1": 2} =>
        {"k": {"l": x}, [1]: y} := {[1]: 5, "k": {"l": 6}} => [6,5]
        {1: 2} := {1: 2} => []
        {1: x, 2: y, 2: z} := {1: 5, 2: 6} => [5,6,6]
        {1: x, 2: y, 2: z} := {1: 5, 2: 6, 3: 7} =>
        {1: x, 2: y, 3: z} := {1: 5, 2: 6} =>
        some x, y; {data.r[0][x]: y} = {1: 5} => [0,5]
        some x, y; {data.r[0][x]: y} = {2: 5} => [1,5]
        some x, y; {data.r[0][x]: y} = {3: 5} =>
        some x, y; [data.r[0][x], y] = [2, 7] => [1,7]
        some x, y; [y, data.r[0][x]] = [7, 2] => [1,7]
        {1: 2} := {1: 3} =>
        k := "a"; some x; {k: x} = {"a": 5} => ["a",5]
        some x; {data.a[_]: x} = {20: 5} => [5]
        -- a CONSTANT
        {1, 2} := {2, 1} => []
        {1, 2} := [1, 2] =>
        set() := set() => []
        set() := {} =>
        ([1]) := [1.0] => []
        -1.5 := 1 - 2.5 => []
        """);
    world(null, null);
  }

  private static void results() {
    world("{\"a\":[3,1,2,1]}", null);
    asks("""
        -- RESULTS: the arrays of the values of the QUERY's own variables, in the order of their declarations
        y := x; x := 1; z := 2 => [1,1,2]
        some b, a; [a, b] = [1, 2] => [2,1]
        {"z": x, "a": y} := {"a": 1, "z": 2} => [2,1]
        [x, {"k": y}] := [1, {"k": [z2 | z2 := 5]}] => [1,[5]]
        every v in [1] { w := v } => []
        x := [v | some v in [1]; u := v; u == 1] => [[1]]
        some k, _ in [5] => [0]
        -- in all its WAYS: different ones, in THE ORDER
        x := data.a[_] => [1] [2] [3]
        x := data.a[_]; y := 5 - x => [1,4] [2,3] [3,2]
        some x in [1, 1.0, 1.000000] => [1]
        some x in [null, "b", [0], {}, false, set(), 7] => [null] [false] [7] ["b"] [[0]] [{}] [set()]
        some x in [2, 1]; some y in ["b", "a"] => [1,"a"] [1,"b"] [2,"a"] [2,"b"]
        -- without variables of its own: [], once, if it has a WAY
        true => []
        data.a[_] => []
        data.a[_]; data.a[_]; not false => []
        data.q =>
        some _ in data.a => []
        """);
    same("results", d.number("some x in [3, 1, 2, 1]"), "3");
    same("about", d.h().about(3), 3);
    same("result 2", d.out(d.h().result(2, 0)), "[3]");
    same("result 3", d.h().result(3, 0), -1);
    same("result -1", d.h().result(-1, 0), -1);
    world(null, null);
  }

  private static void functions() {
    world("{}", null, """
        package p
        f(1) := "one"
        f([x, 2]) := x
        f({"k": x}) := [x]
        f("a") := "A" if { false } else := "B" if { false } else := "C"
        f(n) := v if { n == null; v := n }
        f(n) := v if { n == null; v := data.q }
        g(x, y) := x if { x < y } else := y
        h(_, {1, 2}, "k", w) := w
        c(x) := 1
        c(x) := 2 if { x > 5 }
        c(x) := 1.0
        m(x) := y if { z := [1, 2]; y := z[x] }
        e(x) if { x == 1 }
        e(x) := false if { x == 2 }
        i(x) := (input.v + x)
        j(x, y) if { y = x }
        """);
    asks("""
        -- Of a FUNCTION: as of a complete rule, in a WAY of its own in which its PARAMETERS MATCH the operands (a PART of which one does not has no value)
        x := data.p.f(1) => ["one"]
        x := data.p.f(1.0) => ["one"]
        x := data.p.f(2) =>
        x := data.p.f([7, 2]) => [7]
        x := data.p.f([7, 3]) =>
        x := data.p.f([7]) =>
        x := data.p.f({"k": 8}) => [[8]]
        x := data.p.f({"k": 8, "l": 9}) =>
        x := data.p.f("a") => ["C"]
        x := data.p.f(null) => [null]
        x := data.p.f(data.q) =>
        x := data.p.g(1, 2) => [1]
        x := data.p.g(2, 1) => [1]
        x := data.p.g(2, 2) => [2]
        x := data.p.h(0, {2, 1}, "k", 5) => [5]
        x := data.p.h(0, {2, 3}, "k", 5) =>
        x := data.p.h(0, {2, 1}, "j", 5) =>
        x := data.p.c(5) => [1]
        x := data.p.c(6) => -101
        x := data.p.m(1) => [2]
        x := data.p.m(2) =>
        x := data.p.e(1) => [true]
        x := data.p.e(2) => [false]
        x := data.p.e(3) =>
        x := data.p.j(2, 2) => [true]
        x := data.p.j(2, 3) =>
        data.p.e(1) => []
        data.p.e(2) =>
        not data.p.e(2) => []
        x := [data.p.f(y) | some y in [1, 2, [3, 2]]] => [["one",3]]
        x := data.p.g(data.p.g(3, 4), data.p.g(5, 2)) => [2]
        -- in this SCOPE
        x := data.p.i(1) =>
        x := data.p.i(1) with input.v as 5 => [6]
        x := [data.p.i(y) | some y in [1, 2]] with input.v as 5 => [[6,7]]
        """);
    d.ask("x := data.p.c(6)");
    same("the number of its rule", d.h().about(1), 3);
    world(null, null);
  }

  private static void documents() {
    world("{\"n\":[1,2,2]}", null, """
        package p
        a := 1 if { false }
        b := x if { some x in data.n; x > 1 }
        c := x if { some x in data.n }
        d := 1
        d := 1.0
        d := 2 if { false }
        e := 1
        e := 2
        default f := "d"
        f := 1 if { false }
        default g := "d"
        g := 1
        default h := "d"
        h := 1
        h := 2
        default i := {"k": [1]}
        j := 1 if { false } else := data.q else := 3 if { true } else := 4
        k := (1 / 0) else := 2
        l := false
        m if { true }
        n := x if { some x in data.n } else := 3
        s contains x if { some x in data.n }
        s contains 5
        s contains data.q
        t contains 1 if { false }
        o[x] := 1 if { some x in data.n }
        o["z"] := data.q
        u[1] := 2 if { false }
        v[1] := x if { some x in data.n }
        w[1] := 2
        w[1.0] := 2
        w[data.n[_]] := 2
        y := x if { x := data.n[_]; x == 3 } else := "none"
        default z := {1: 2, 1: 3}
        default da := {2, {1}, set()}
        default db := {{"k": {1}}: [{}], -1: `x`}
        default dc := (([null, true, (false)]))
        default dd := {1, 1.0}
        de := 1 if { false } else := 2 if { false } else := 3 if { false } else := 4 if { false } else := 5 if { false } else := 6 if { false } else := 7 if { false } else := 8 if { false } else := 9
        df := 1 if { false } else := 2 if { false } else := 3 if { false } else := 4 if { false } else := 5 if { false } else := 6 if { false } else := 7 if { false } else := 8 if { true } else := 9
        """);
    asks("""
        -- Of a complete rule: of each PART that is no default, by its BRANCHES in order, the first that has a value in some WAY
        x := data.p.a =>
        x := data.p.b => [2]
        x := data.p.j => [3]
        x := data.p.k => [2]
        x := data.p.l => [false]
        data.p.l =>
        x := data.p.m => [true]
        x := data.p.y => ["none"]
        -- all values of its TERM in all WAYS of its BODY. If all of these, of all PARTS, are EQUAL: that
        x := data.p.d => [1]
        -- if some are not: a CONFLICT is NOTED, and there is none
        x := data.p.c => -101
        x := data.p.e => -101
        x := data.p.n => -101
        -- if there are none: that of its default, or none
        x := data.p.f => ["d"]
        x := data.p.g => [1]
        x := data.p.h => -101
        x := data.p.i.k[0] => [1]
        x := data.p.z =>
        -- Of a SET rule: the set of all values of its TERMS in all WAYS
        x := data.p.s => [{1,2,5}]
        x := data.p.t => [set()]
        x := data.p.s[2] => [2]
        x := data.p.s[3] =>
        -- Of an OBJECT rule: the object of all keys and values; if EQUAL keys have values that are not EQUAL: a CONFLICT
        x := data.p.o => [{1:1,2:1}]
        x := data.p.u => [{}]
        x := data.p.v => -101
        x := data.p.w => [{1:2,2:2}]
        x := data.p.o[2] => [1]
        """);
    String[] names = {"a", "b", "c", "d", "e", "f", "g", "h", "i", "j", "k", "l", "m", "n", "s", "t", "o", "u", "v", "w", "y", "z", "da", "db", "dc", "dd", "de", "df"};
    String[] values = {"none", "2", "none", "1", "none", "\"d\"", "1", "none", "{\"k\":[1]}", "3", "2", "false", "true", "none", "{1,2,5}", "set()", "{1:1,2:1}", "{}", "none", "{1:2,2:2}", "\"none\"", "none",
      "{2,set(),{1}}", "{-1:\"x\",{\"k\":{1}}:[{}]}", "[null,true,false]", "{1}", "9", "8"};
    for (int r = 0; r < names.length; r++) {
      ready(0, 40);
      d.ask("data.p." + names[r]);
      same("DOCUMENT of " + names[r], d.out(d.h().document(r)), values[r]);
      same("DOCUMENT of another one", d.h().document(r == 0 ? 1 : 0), -1);
    }
    same("no such rule", d.h().document(-1) + " " + d.h().document(names.length), "-1 -1");
    world(null, null);
  }

  /** Rules that all have as many BRANCHES as may be. */
  private static void branches() {
    StringBuilder s = new StringBuilder("package p\n");
    for (int r = 0; r < 5; r++) {
      s.append("r").append(r).append(" := 0 if { false }");
      for (int i = 1; i <= 8; i++) s.append(" else := ").append(i).append(" if { ").append(i == 4 + r).append(" }");
      s.append("\n");
    }
    world("{}", null, s.toString());
    asks("""
        x := data.p => [{"r0":4,"r1":5,"r2":6,"r3":7,"r4":8}]
        """);
    same("TRIES", d.h().covered(0) + " " + d.h().covered(4), "5 9");
    world(null, null);
  }

  public static void main(String[] args) {
    references();
    makes();
    signs();
    literals();
    results();
    functions();
    documents();
    branches();
    Desk.end("ways");
  }
}
