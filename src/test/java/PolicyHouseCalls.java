// Part V of the document: the BUILT-INS one by one, with what VI tells of them; each sentence at its edges.
public final class PolicyHouseCalls extends Sheet {
  private static void numbers() {
    values("""
        -- 0 abs n
        abs(-1000000000000) => 1000000000000
        abs(-0.000001) => 0.000001
        abs(0) => 0
        abs(2.5) => 2.5
        -- 1 ceil n, 2 floor n, 3 round n: whole numbers (halves away from 0)
        ceil(0.000001) => 1
        ceil(-0.000001) => 0
        ceil(-1) => -1
        ceil(-1.999999) => -1
        ceil(999999999999.000001) => 1000000000000
        ceil(1000000000000) => 1000000000000
        floor(0.999999) => 0
        floor(-0.000001) => -1
        floor(-1) => -1
        floor(-999999999999.000001) => -1000000000000
        floor(1.999999) => 1
        round(0.5) => 1
        round(0.499999) => 0
        round(-0.5) => -1
        round(-0.499999) => 0
        round(1.5) => 2
        round(2.5) => 3
        round(-2.5) => -3
        round(999999999999.5) => 1000000000000
        round(-999999999999.5) => -1000000000000
        round(7) => 7
        -- 4 numbers.range w w: from the first to the second, up or down (none for more than 500)
        numbers.range(0, 0) => [0]
        numbers.range(-1, 1) => [-1,0,1]
        numbers.range(1, -1) => [1,0,-1]
        numbers.range(2, 3) => [2,3]
        count(numbers.range(1, 500)) => 500
        count(numbers.range(500, 1)) => 500
        numbers.range(1, 501) => none
        numbers.range(501, 1) => none
        numbers.range(0, 500) => none
        numbers.range(-1000000000000, 1000000000000) => none
        numbers.range(1000000000000, -1000000000000) => none
        numbers.range(0, 4294967296) => none
        numbers.range(999999999999, 1000000000000) => [999999999999,1000000000000]
        -- 5 count x: (N) of a string, array, object, set; none of others
        count("") => 0
        count("ab") => 2
        count([]) => 0
        count([[1, 2]]) => 1
        count({}) => 0
        count({1: 2, 3: 4}) => 2
        count({1, 2, 1}) => 2
        count(abs(1)) => none
        count(is_null(1)) => none
        -- 6 sum c: of numbers (none if something else is in it). 7 product c: likewise, from 1 on, ROUNDED each time
        sum([]) => 0
        sum([1, 2, -4.5]) => -1.5
        sum({1, 2}) => 3
        sum([1, 1]) => 2
        sum([1, null]) => none
        sum({1, "1"}) => none
        sum([[1]]) => none
        product([]) => 1
        product(set()) => 1
        product([2, -3]) => -6
        product([0.001, 0.0005, 1000]) => 0.001
        product([0.001, 0.0004, 1000]) => 0
        product([1, "1"]) => none
        product({2, 3}) => 6
        -- 6, 7: out of bounds at any step, in THE ORDER (an array's own): none
        sum([1000000000000, 0.000001, -1]) => none
        sum([1000000000000, -1, 0.000001]) => 999999999999.000001
        sum([-1000000000000, -0.000001, 1]) => none
        sum({1000000000000, 0.000001, -1}) => 999999999999.000001
        sum({1000000000000, 2, -1}) => none
        sum([1000000000000, 1000000000000]) => none
        product([1000000, 1000000]) => 1000000000000
        product([1000000, 1000000.000001, 0]) => none
        product([1000000, 0, 1000000.000001]) => 0
        product({1000000, 1000001, 0}) => 0
        product([-1000000, 1000000.000001, 0]) => none
        product([1000000000000, 1000000000000]) => none
        -- 8 max c, 9 min c: none if it is empty
        max([]) => none
        max(set()) => none
        min([]) => none
        min(set()) => none
        max([2, 3, 1]) => 3
        min([2, 3, 1]) => 1
        max({2, "a", [0]}) => [0]
        min({2, "a", null}) => null
        max([{1}, {1, 2}]) => {1,2}
        -- 10 sort c: the array, in THE ORDER
        sort([]) => []
        sort(set()) => []
        sort([2, 1, 2]) => [1,2,2]
        sort({2, 1, 2}) => [1,2]
        """);
  }

  private static void strings() {
    values("""
        -- 11 concat s c: of strings, the first operand between
        concat(",", []) => ""
        concat(",", set()) => ""
        concat(",", ["a"]) => "a"
        concat(",", ["a", "", "b"]) => "a,,b"
        concat("", ["a", "b"]) => "ab"
        concat("--", {"b", "a"}) => "a--b"
        concat(",", ["a", 1]) => none
        concat(",", [null]) => none
        concat(",", {["a"]}) => none
        -- 12 strings.includes s s: whether the second is somewhere in the first; 13 startswith, 14 endswith
        [strings.includes("abc", "abc"), strings.includes("abc", "c"), strings.includes("abc", ""), strings.includes("", "")] => [true,true,true,true]
        [strings.includes("abc", "abcd"), strings.includes("", "a"), strings.includes("abc", "ac")] => [false,false,false]
        [startswith("abc", ""), startswith("abc", "abc"), startswith("", ""), startswith("abc", "a")] => [true,true,true,true]
        [startswith("abc", "abcd"), startswith("abc", "b"), startswith("", "a")] => [false,false,false]
        [endswith("abc", ""), endswith("abc", "abc"), endswith("", ""), endswith("abc", "c")] => [true,true,true,true]
        [endswith("abc", "zabc"), endswith("abc", "b"), endswith("", "a")] => [false,false,false]
        -- 15 indexof s s: the first place of the second in the first, or -1; an empty second one: 0
        [indexof("abab", "b"), indexof("abab", "ab"), indexof("abab", "ba"), indexof("abab", "abab")] => [1,0,1,0]
        [indexof("abab", "c"), indexof("ab", "abc"), indexof("", "a")] => [-1,-1,-1]
        [indexof("abab", ""), indexof("", "")] => [0,0]
        -- 16 lower s, 17 upper s (a .. z)
        lower("@AZ[`az{\\u00c0") => "@az[`az{À"
        upper("@AZ[`az{\\u00e0") => "@AZ[`AZ{à"
        lower("") => ""
        -- 18 replace s s s: each second one in the first, from the left, becomes the third (none if the second is empty)
        replace("aaaa", "aa", "b") => "bb"
        replace("aaa", "aa", "aaa") => "aaaa"
        replace("abc", "x", "y") => "abc"
        replace("abc", "abc", "") => ""
        replace("", "a", "b") => ""
        replace("ab", "abc", "d") => "ab"
        replace("a", "", "b") => none
        replace("", "", "b") => none
        -- 19 split s s: an array (the second empty: of single bytes); of an empty string [""], by an empty one, of an empty string []
        split("a.b", ".") => ["a","b"]
        split(".a.", ".") => ["","a",""]
        split("aaa", "aa") => ["","a"]
        split("abc", "x") => ["abc"]
        split("abc", "abc") => ["",""]
        split("abc", "abcd") => ["abc"]
        split("ab", "") => ["a","b"]
        split("", ".") => [""]
        split("", "") => []
        -- 20 strings.reverse s
        strings.reverse("") => ""
        strings.reverse("ab\\u00ff") => "ÿba"
        -- 21 substring s w w: from a place (none below 0; empty behind the end) so many bytes, at most to the end; to the end if below 0
        substring("abc", 0, 3) => "abc"
        substring("abc", 0, 0) => ""
        substring("abc", 1, 1) => "b"
        substring("abc", 2, 5) => "c"
        substring("abc", 3, 1) => ""
        substring("abc", 4, 1) => ""
        substring("abc", 3, -1) => ""
        substring("abc", 9, -1) => ""
        substring("abc", 1, -1) => "bc"
        substring("abc", 1, -1000000000000) => "bc"
        substring("abc", 0, 1000000000000) => "abc"
        substring("abc", 1000000000000, 1000000000000) => ""
        substring("abc", 4294967296, 1) => ""
        substring("abc", 0, 4294967297) => "abc"
        substring("abc", -1, 1) => none
        substring("abc", -1000000000000, 1) => none
        substring("", 0, 1) => ""
        -- 22 trim s s, 23 trim_left s s, 24 trim_right s s: without bytes of the second at both ends, the left, right one
        trim("abcba", "ab") => "c"
        trim("abcba", "ba") => "c"
        trim("aba", "ab") => ""
        trim("abc", "") => "abc"
        trim("", "a") => ""
        trim("xax", "a") => "xax"
        trim_left("aab a", "a") => "b a"
        trim_left("aaa", "a") => ""
        trim_right("a baa", "a") => "a b"
        trim_right("aaa", "a") => ""
        trim_left("ba", "a") => "ba"
        trim_right("ab", "a") => "ab"
        -- 25 trim_prefix s s, 26 trim_suffix s s
        [trim_prefix("aab", "a"), trim_prefix("ab", "ab"), trim_prefix("ab", "abc"), trim_prefix("ab", ""), trim_prefix("ab", "b")] => ["ab","","ab","ab","ab"]
        [trim_suffix("baa", "a"), trim_suffix("ab", "ab"), trim_suffix("ab", "zab"), trim_suffix("ab", ""), trim_suffix("ab", "a")] => ["ba","","ab","ab","ab"]
        -- 27 trim_space s (9 .. 13, 32)
        trim_space("\\t\\n\\u000b\\f\\r a b \\r\\f\\u000b\\n\\t") => "a b"
        trim_space("\\bab\\u000e") => "\\bab\\u000e"
        trim_space("\\u001fa\\u00a0") => "\\u001fa\u00a0"
        trim_space("  ") => ""
        trim_space("") => ""
        -- 28 strings.count s s: how often the second is in the first, from the left, behind one another (none if the second is empty)
        [strings.count("aaaa", "aa"), strings.count("aaa", "aa"), strings.count("abc", "d"), strings.count("", "a"), strings.count("ab", "abc"), strings.count("ababab", "ab")] => [2,1,0,0,0,3]
        strings.count("a", "") => none
        strings.count("", "") => none
        -- 29 format_int n w: the number without what is behind the point in base 2, 8, 10, 16 (small letters; else none)
        [format_int(5, 2), format_int(64, 8), format_int(90, 10), format_int(255, 16), format_int(0, 2)] => ["101","100","90","ff","0"]
        format_int(1000000000000, 16) => "e8d4a51000"
        format_int(-1000000000000, 8) => "-16432451210000"
        format_int(-1000000000000, 10) => "-1000000000000"
        format_int(1, 0) => none
        format_int(1, 1) => none
        format_int(1, 9) => none
        format_int(1, 15) => none
        format_int(1, 17) => none
        format_int(1, -10) => none
        format_int(1, 4294967298) => none
        -- 29: 0 for what is between -1 and 1, else - ahead
        [format_int(0.999999, 10), format_int(-0.999999, 10), format_int(-0.000001, 2), format_int(-1, 2), format_int(-1.999999, 16), format_int(1.999999, 16)] => ["0","0","0","-1","-1","1"]
        -- 30 to_number x: a number; a string that is a number as in JSON (in bounds); TRUE 1; FALSE, NULL 0; none of others; no blanks
        [to_number(-1.5), to_number(true), to_number(false), to_number(null)] => [-1.5,1,0,0]
        [to_number("0"), to_number("-0.50"), to_number("1000000000000"), to_number("-1000000000000.000000"), to_number("-0")] => [0,-0.5,1000000000000,-1000000000000,0]
        to_number("1000000000000.000001") => none
        to_number("-1000000000001") => none
        to_number("1.0000000") => none
        to_number("") => none
        to_number("-") => none
        to_number("1.") => none
        to_number(".5") => none
        to_number("00") => none
        to_number("+1") => none
        to_number("1e1") => none
        to_number(" 1") => none
        to_number("1 ") => none
        to_number("1\\n") => none
        to_number("1a") => none
        to_number("true") => none
        to_number([]) => none
        to_number({}) => none
        to_number({1}) => none
        -- 31 sprintf s a: %d the next element, a number, without what is behind the point; %x likewise in base 16
        sprintf("", []) => ""
        sprintf("a%%b", []) => "a%b"
        sprintf("%d %d %d", [1.9, -1.9, 0.5]) => "1 -1 0"
        sprintf("%d %d", [-0.999999, 1000000000000]) => "0 1000000000000"
        sprintf("%x %x %x", [255.5, -16, -0.5]) => "ff -10 0"
        sprintf("%x", [-1000000000000]) => "-e8d4a51000"
        sprintf("%d", ["1"]) => none
        sprintf("%d", [null]) => none
        sprintf("%x", ["a"]) => none
        -- %s a string as it is; %v a string as it is, another one by its PRINT
        sprintf("<%s>", ["a\\n\\""]) => "<a\\n\\">"
        sprintf("<%s>", [""]) => "<>"
        sprintf("%s", [1]) => none
        sprintf("%s", [["a"]]) => none
        sprintf("%v|%v|%v|%v|%v", ["a\\"", ["a\\""], -0.5, set(), {"k": {1}}]) => "a\\"|[\\"a\\\\\\"\\"]|-0.5|set()|{\\"k\\":{1}}"
        sprintf("%v%v", [null, true]) => "nulltrue"
        -- none for another byte behind %, the wrong kind, too few or too many elements
        sprintf("%", []) => none
        sprintf("a%", [1]) => none
        sprintf("%q", [1]) => none
        sprintf("%q", ["a"]) => none
        sprintf("%S", ["a"]) => none
        sprintf("% s", ["a"]) => none
        sprintf("%\\u0000", ["a"]) => none
        sprintf("%D", [1]) => none
        sprintf("% d", [1]) => none
        sprintf("%5d", [1]) => none
        sprintf("%d%d", [1]) => none
        sprintf("%v", []) => none
        sprintf("%v", [1, 2]) => none
        sprintf("%%", [1]) => none
        sprintf("a", [1]) => none
        """);
  }

  private static void rows() {
    values("""
        -- 32 array.concat a a. 33 array.slice a w w: from the first place (or 0) to ahead of the second one (or its size)
        array.concat([], []) => []
        array.concat([1], []) => [1]
        array.concat([], [1]) => [1]
        array.concat([2, 1], [1, 2]) => [2,1,1,2]
        array.slice([1, 2, 3], 0, 3) => [1,2,3]
        array.slice([1, 2, 3], 1, 2) => [2]
        array.slice([1, 2, 3], -1, 2) => [1,2]
        array.slice([1, 2, 3], -1000000000000, 1000000000000) => [1,2,3]
        array.slice([1, 2, 3], 2, 4) => [3]
        array.slice([1, 2, 3], 4294967296, 4294967298) => []
        array.slice([1, 2, 3], 0, 4294967297) => [1,2,3]
        array.slice([], 0, 1) => []
        -- 33: [] if the second place isn't above the first
        array.slice([1, 2, 3], 1, 1) => []
        array.slice([1, 2, 3], 2, 1) => []
        array.slice([1, 2, 3], 3, 3) => []
        array.slice([1, 2, 3], 3, 9) => []
        array.slice([1, 2, 3], -5, -2) => []
        array.slice([1, 2, 3], 0, 0) => []
        -- 34 array.reverse a
        array.reverse([]) => []
        array.reverse([1, [2, 3]]) => [[2,3],1]
        -- 35 object.get o x x: the value of the second in it; .. else the third
        object.get({"a": null}, "a", 5) => null
        object.get({"a": false}, "a", 5) => false
        object.get({}, "a", 5) => 5
        object.get({1: 2}, "1", {5}) => {5}
        object.get({{1}: 2}, {1.0}, 5) => 2
        -- if that is an array, step by step by its elements (as STEPS, in arrays, objects, sets; an empty one: the object); an array is always the way
        object.get({"a": {"b": 1}}, ["a", "b"], 5) => 1
        object.get({"a": [7, 8]}, ["a", 1.0], 5) => 8
        object.get({"a": [7, 8]}, ["a", 2], 5) => 5
        object.get({"a": [7, 8]}, ["a", "0"], 5) => 5
        object.get({"a": {7, 8}}, ["a", 8], 5) => 8
        object.get({"a": {7, 8}}, ["a", 9], 5) => 5
        object.get({"a": 1}, ["a", "b"], 5) => 5
        object.get({"a": "b"}, ["a", 0], 5) => 5
        object.get({"a": 1}, ["b", "a"], 5) => 5
        object.get({"a": 1}, [], 5) => {"a":1}
        object.get({[]: 1}, [], 5) => {[]:1}
        object.get({["a"]: 1}, ["a"], 5) => 5
        object.get({["a"]: 1}, [["a"]], 5) => 1
        -- 36 object.keys o: a set
        object.keys({}) => set()
        object.keys({"a": 1, [2]: 1}) => {"a",[2]}
        -- 37 object.remove o x, 38 object.filter o x: without, with just, the keys in an array or set, or those of an object
        object.remove({"a": 1, "b": 2, 3: 4}, ["b", 3, 3, 5]) => {"a":1}
        object.remove({"a": 1, "b": 2}, {"b"}) => {"a":1}
        object.remove({"a": 1, "b": 2}, {"b": "a"}) => {"a":1}
        object.remove({"a": 1}, []) => {"a":1}
        object.remove({"a": 1}, ["a"]) => {}
        object.remove({}, ["a"]) => {}
        object.filter({"a": 1, "b": 2, 3: 4}, ["b", 3, 3, 5]) => {3:4,"b":2}
        object.filter({"a": 1, "b": 2}, {"b"}) => {"b":2}
        object.filter({"a": 1, "b": 2}, {"b": "a"}) => {"b":2}
        object.filter({"a": 1}, set()) => {}
        object.filter({"a": 1}, {}) => {}
        -- 37, 38: none for a second operand that is no array, set, object
        object.remove({"a": 1}, "a") => none
        object.filter({"a": 1}, "a") => none
        object.remove({1: 1}, 1) => none
        object.filter({"a": 1}, null) => none
        object.remove({"a": 1}, true) => none
        -- 39 object.union o o: keys of both; of one in both the second one's value, or, if both are objects, likewise
        object.union({}, {}) => {}
        object.union({"a": 1}, {}) => {"a":1}
        object.union({}, {"a": 1}) => {"a":1}
        object.union({"a": 1}, {"a": 2}) => {"a":2}
        object.union({"a": 1, "b": 2}, {"b": 3, "c": 4}) => {"a":1,"b":3,"c":4}
        object.union({"a": {"x": 1}}, {"a": 2}) => {"a":2}
        object.union({"a": 2}, {"a": {"x": 1}}) => {"a":{"x":1}}
        object.union({"a": {"x": {"p": 1}, "y": 1}}, {"a": {"x": {"q": 2}, "z": 3}}) => {"a":{"x":{"p":1,"q":2},"y":1,"z":3}}
        object.union({"a": [1]}, {"a": [2]}) => {"a":[2]}
        object.union({"a": {1}}, {"a": {2}}) => {"a":{2}}
        object.union({"a": null}, {"a": false}) => {"a":false}
        object.union({1: 2}, {"1": 3}) => {1:2,"1":3}
        -- 41 union t, 42 intersection t: of sets (none if another is in it; of none set())
        union(set()) => set()
        union({set()}) => set()
        union({{1}, {2, 1}, set()}) => {1,2}
        union({{1}, [2]}) => none
        union({1}) => none
        intersection(set()) => set()
        intersection({{1, 2}}) => {1,2}
        intersection({{1, 2}, {2, 3}, {2, 1, 3}}) => {2}
        intersection({{1}, set()}) => set()
        intersection({{1}, {2}}) => set()
        intersection({{1}, "1"}) => none
        intersection({{}}) => none
        -- 69 walk x: the array of [path, value] of all that is in it, it first, then of each element (key) in order likewise
        walk(null) => [[[],null]]
        walk([]) => [[[],[]]]
        walk({}) => [[[],{}]]
        walk("ab") => [[[],"ab"]]
        walk([[5], 6]) => [[[],[[5],6]],[[0],[5]],[[0,0],5],[[1],6]]
        walk({"b": 1, "a": {2: 3}}) => [[[],{"a":{2:3},"b":1}],[["a"],{2:3}],[["a",2],3],[["b"],1]]
        walk({{1}, 2}) => [[[],{2,{1}}],[[2],2],[[{1}],{1}],[[{1},1],1]]
        walk({[1]: 2}) => [[[],{[1]:2}],[[[1]],2]]
        """);
    for (int kind = 0; kind < 7; kind++) {
      String[] names = {"is_null", "is_boolean", "is_number", "is_string", "is_array", "is_object", "is_set"};
      String[] values = {"null", "false", "0", "\"\"", "[]", "{}", "set()", "true"};
      for (int v = 0; v < 8; v++) is(names[kind] + "(" + values[v] + ")", v == kind || v == 7 && kind == 1 ? "true" : "false");
    }
    values("""
        -- 50 type_name x
        [type_name(null), type_name(true), type_name(false), type_name(1), type_name("x"), type_name([1]), type_name({1: 2}), type_name({1})] => ["null","boolean","boolean","number","string","array","object","set"]
        """);
  }

  private static void patches() {
    String[][] cases = {
      // 40 json.patch x a: one after the other; none if one can't be done
      {"{\"a\": 1}", "[]", "{\"a\":1}"}, {"5", "[]", "5"}, {"{1}", "[]", "{1}"},
      {"{\"a\": 1}", "add /b 2, remove /a, add /c 3", "{\"b\":2,\"c\":3}"},
      {"{\"a\": 1}", "remove /a, remove /a", "none"}, {"{\"a\": 1}", "add /b 2, test /b 3", "none"},
      // a pointer is empty, or / and names, ~1 for /, ~0 for ~
      {"{\"a\": 1}", "add  2", "2"}, {"{\"a\": 1}", "add /~01 2", "{\"a\":1,\"~1\":2}"}, {"{\"a\": 1}", "add /~10 2", "{\"/0\":2,\"a\":1}"},
      {"{\"a\": 1}", "add /~0~1 2", "{\"a\":1,\"~/\":2}"}, {"{\"a\": 1}", "add /~2 2", "none"}, {"{\"a\": 1}", "add /~ 2", "none"},
      {"{\"a\": 1}", "add /b~ 2", "none"}, {"{\"a\": 1}", "add b 2", "none"}, {"{\"a\": 1}", "add b/c 2", "none"},
      {"{\"a\": 1}", "add / 2", "{\"\":2,\"a\":1}"}, {"{\"\": {\"\": 1}}", "remove //", "{\"\":{}}"}, {"{\"a\": 1}", "add /a/ 2", "none"},
      {"{\"\": 5}", "remove /", "{}"}, {"{\"~a\": 5}", "remove /~a", "none"}, {"{\"~a\": 5}", "remove /~0a", "{}"},
      // of arrays digits without a 0 ahead, - behind the end
      {"[1, 2]", "add /0 0", "[0,1,2]"}, {"[1, 2]", "add /1 0", "[1,0,2]"}, {"[1, 2]", "add /2 0", "[1,2,0]"}, {"[1, 2]", "add /3 0", "none"},
      {"[1, 2]", "add /- 0", "[1,2,0]"}, {"[]", "add /- 0", "[0]"}, {"[]", "add /0 0", "[0]"}, {"[]", "add /1 0", "none"},
      {"[1, 2]", "add /00 0", "none"}, {"[1, 2]", "add /01 0", "none"}, {"[1, 2]", "add /-1 0", "none"}, {"[1, 2]", "add /+1 0", "none"},
      {"[1, 2]", "add /1.0 0", "none"}, {"[1, 2]", "add /a 0", "none"}, {"[1, 2]", "add / 0", "none"}, {"[1, 2]", "add /4294967296 0", "none"},
      {"[1, 2]", "add /4294967297 0", "none"}, {"[1, 2]", "add /2147483648 0", "none"}, {"[1, 2]", "add /10000000000000000000000 0", "none"},
      {"[1, 2]", "add /1x 0", "none"}, {"[1, 2]", "add /-- 0", "none"},
      {"[1, 2]", "replace /0 5", "[5,2]"}, {"[1, 2]", "replace /1 5", "[1,5]"}, {"[1, 2]", "replace /2 5", "none"}, {"[1, 2]", "replace /- 5", "none"},
      {"[1, 2]", "remove /0", "[2]"}, {"[1, 2]", "remove /1", "[1]"}, {"[1, 2]", "remove /2", "none"}, {"[1, 2]", "remove /-", "none"},
      {"[1, 2]", "test /1 2", "[1,2]"}, {"[1, 2]", "test /2 2", "none"}, {"[1, 2]", "test /- 2", "none"}, {"[1, 2]", "test /01 2", "none"},
      {"[[1], 2]", "add /0/0 0", "[[0,1],2]"}, {"[[1], 2]", "add /0/- 0", "[[1,0],2]"}, {"[[1], 2]", "add /-/0 0", "none"}, {"[[1], 2]", "add /2/0 0", "none"},
      {"[[1], 2]", "remove /0/0", "[[],2]"}, {"[[1], 2]", "replace /0/0 3", "[[3],2]"}, {"[[1], 2]", "add /1/0 0", "none"},
      // (sets are not gone into); of objects string keys alone are gone into
      {"{\"s\": {1}}", "add /s/- 2", "none"}, {"{\"s\": {\"a\"}}", "remove /s/a", "none"}, {"{\"s\": {\"a\"}}", "test /s/a \"a\"", "none"},
      {"{\"s\": {1}}", "replace /s {2}", "{\"s\":{2}}"}, {"{\"s\": {1}}", "test /s {1.0}", "{\"s\":{1}}"}, {"{1}", "add /0 1", "none"},
      {"{1: 2}", "remove /1", "none"}, {"{1: 2}", "test /1 2", "none"}, {"{1: 2}", "add /1 3", "{1:2,\"1\":3}"}, {"{null: 2}", "remove /null", "none"},
      {"\"ab\"", "add /0 1", "none"}, {"5", "test  5.0", "5"}, {"5", "add /a 1", "none"}, {"null", "replace  1", "1"},
      // objects
      {"{\"a\": 1}", "add /a 2", "{\"a\":2}"}, {"{\"a\": 1}", "add /b/c 2", "none"}, {"{\"a\": {}}", "add /a/c 2", "{\"a\":{\"c\":2}}"},
      {"{\"a\": 1}", "replace /a 2", "{\"a\":2}"}, {"{\"a\": 1}", "replace /b 2", "none"}, {"{\"a\": 1}", "remove /b", "none"}, {"{\"a\": 1}", "remove /a/b", "none"},
      {"{\"a\": {\"b\": 1, \"c\": 2}}", "remove /a/b", "{\"a\":{\"c\":2}}"}, {"{\"a\": 1}", "test /a 1.0", "{\"a\":1}"}, {"{\"a\": null}", "test /a null", "{\"a\":null}"},
      {"{\"a\": [1, {\"b\": 2}]}", "replace /a/1/b 3", "{\"a\":[1,{\"b\":3}]}"},
      // add and replace at the empty pointer are of the whole value
      {"{\"a\": 1}", "replace  [2]", "[2]"}, {"{\"a\": 1}", "add  null", "null"}, {"{\"a\": 1}", "test  {\"a\": 1}", "{\"a\":1}"}, {"{\"a\": 1}", "test  {}", "none"},
      // remove, move from it can't be done, nor a move to what lies in what is moved
      {"{\"a\": 1}", "remove ", "none"}, {"{\"a\": 1}", "move /b<", "none"}, {"{\"a\": {\"b\": 1}}", "move /a/b</a", "none"}, {"{\"a\": {\"b\": 1}}", "move /a/c</a", "none"},
      {"{\"a\": {\"b\": {}}}", "move /a/b/c</a", "none"}, {"{\"a\": {\"b\": 1}}", "move /a</a", "{\"a\":{\"b\":1}}"}, {"{\"a\": {\"b\": 1}}", "move /a</a/b", "{\"a\":1}"},
      {"{\"a\": {\"b\": 1}}", "move </a/b", "1"}, {"{\"a\": 1, \"ab\": {}}", "move /ab/c</a", "{\"ab\":{\"c\":1}}"}, {"{\"a\": 1}", "move /b</c", "none"},
      {"{\"a\": 1, \"b\": 2}", "move /b</a", "{\"b\":1}"}, {"[1, 2, 3]", "move /0</2", "[3,1,2]"}, {"[1, 2, 3]", "move /2</0", "[2,3,1]"}, {"[1, 2, 3]", "move /3</0", "none"},
      {"[1, 2, 3]", "move /-</0", "[2,3,1]"}, {"[1, 2, 3]", "move /0</-", "none"}, {"[1, 2, 3]", "move /1</1", "[1,2,3]"}, {"[[1], [2]]", "move /0/0</1", "[[[2],1]]"},
      {"[[1], [2]]", "move /1/0</0", "none"}, {"[[1], [2]]", "move /0/0</0", "none"}, {"[[1], [2]]", "move /0/-</0", "none"}, {"[[[1]], [2]]", "move /0/0/0</0/0", "none"}, {"[[1], [2], []]", "move /1/0</0", "[[2],[[1]]]"}, {"[{\"a\": 5}, 6]", "move /0/b</0/a", "[{\"b\":5},6]"},
      {"{\"a\": 1}", "copy /b</a", "{\"a\":1,\"b\":1}"}, {"{\"a\": 1}", "copy /a/b</a", "none"}, {"{\"a\": {}}", "copy /a/b</a", "{\"a\":{\"b\":{}}}"}, {"{\"a\": 1}", "copy /b<", "{\"a\":1,\"b\":{\"a\":1}}"},
      {"{\"a\": 1}", "copy </a", "1"}, {"{\"a\": 1}", "copy /b</c", "none"}, {"[1, 2]", "copy /0</1", "[2,1,2]"}, {"[1, 2]", "copy /-</0", "[1,2,1]"}, {"[1, 2]", "copy /0</-", "none"},
      {"[1, 2]", "copy /0</2", "none"}, {"{\"a\": 1}", "copy /b<a", "none"},
    };
    for (String[] c : cases) is("json.patch(" + c[0] + ", " + (c[1].startsWith("[") ? c[1] : operations(c[1])) + ")", c[2]);
    values("""
        -- test of what is not EQUAL, add, replace, test without a value, an unknown op, anything that is no object with a string op and path
        json.patch({}, [{"op": "add", "path": "/a"}]) => none
        json.patch({"a": 1}, [{"op": "replace", "path": "/a"}]) => none
        json.patch({"a": 1}, [{"op": "test", "path": "/a"}]) => none
        json.patch({"a": 1}, [{"op": "add", "path": "/b", "value": null}]) => {"a":1,"b":null}
        json.patch({"a": 1}, [{"op": "Add", "path": "/a", "value": 1}]) => none
        json.patch({"a": 1}, [{"op": "", "path": "/a", "value": 1}]) => none
        json.patch({"a": 1}, [{"op": "adds", "path": "/a", "value": 1}]) => none
        json.patch({"a": 1}, [{"op": 1, "path": "/a", "value": 1}]) => none
        json.patch({"a": 1}, [{"op": "add", "path": 1, "value": 1}]) => none
        json.patch({"a": 1}, [{"op": "add", "path": ["a"], "value": 1}]) => none
        json.patch({"a": 1}, [{"op": "add", "value": 1}]) => none
        json.patch({"a": 1}, [{"path": "/a", "value": 1}]) => none
        json.patch({"a": 1}, [{"op": "move", "path": "/b"}]) => none
        json.patch({"a": 1}, [{"op": "copy", "path": "/b", "from": 1}]) => none
        json.patch({"a": 1}, [{"op": "move", "path": "/b", "from": ["a"]}]) => none
        json.patch({"a": 1}, [[]]) => none
        json.patch({"a": 1}, ["remove"]) => none
        json.patch({"a": 1}, [{}]) => none
        json.patch({"a": 1}, [null]) => none
        json.patch({"a": 1}, [{"op", "path"}]) => none
        -- other members are not asked
        json.patch({"a": 1}, [{"op": "remove", "path": "/a", "value": 1, "from": 5, "x": {1: 2}, 3: 4}]) => {}
        json.patch({"a": 1}, [{"op": "add", "path": "/b", "value": 1, "from": "zz"}]) => {"a":1,"b":1}
        json.patch({"a": 1}, [{"op": "copy", "path": "/b", "from": "/a", "value": 7}]) => {"a":1,"b":1}
        """);
    is("json.patch({}, [{\"op\": \"remove\", \"path\": \"" + "/a".repeat(61) + "\"}])", "none");
    // Places of more digits than one, and signs that are no digits.
    String[][] places = {{"0", "0"}, {"9", "9"}, {"10", "10"}, {"11", "11"}, {"49", "49"}, {"59", "59"}, {"60", "none"}, {"99", "none"}, {"010", "none"}, {"a", "none"}, {":", "none"}, {";", "none"},
      {"1+", "none"}, {"1-", "none"}, {"1.", "none"}, {"5/", "none"}, {"1a", "none"}, {"0a", "none"}, {"-", "none"}, {"", "none"}, {"4294967306", "none"}, {"000001", "none"}, {"1000000", "none"}, {"10000000", "none"}};
    for (String[] p : places) {
      String due = p[1].equals("none") ? "none" : "\"x\"";
      is("object.get({\"r\": json.patch(numbers.range(0, 59), [{\"op\": \"replace\", \"path\": \"/" + p[0] + "\", \"value\": \"x\"}])}, [\"r\", " + (due.equals("none") ? "0" : p[1]) + "], 0)", due);
    }
    is("count(json.patch(numbers.range(0, 59), [{\"op\": \"add\", \"path\": \"/60\", \"value\": 1}, {\"op\": \"remove\", \"path\": \"/60\"}, {\"op\": \"remove\", \"path\": \"/59\"}]))", "59");
    is("json.patch(numbers.range(0, 59), [{\"op\": \"add\", \"path\": \"/61\", \"value\": 1}])", "none");
  }

  /** "add /a 1, remove /b, move /to</from" as the array of operations. */
  private static String operations(String text) {
    StringBuilder s = new StringBuilder("[");
    for (String one : text.split(", (?=[a-z]+ )")) {
      String op = one.substring(0, one.indexOf(' '));
      String rest = one.substring(op.length() + 1);
      int cut = op.equals("move") || op.equals("copy") ? rest.indexOf('<') : op.equals("remove") ? rest.length() : rest.indexOf(' ');
      if (s.length() > 1) s.append(", ");
      s.append("{\"op\": \"").append(op).append("\", \"path\": \"").append(rest, 0, cut).append("\"");
      if (op.equals("move") || op.equals("copy")) s.append(", \"from\": \"").append(rest.substring(cut + 1)).append("\"");
      else if (!op.equals("remove")) s.append(", \"value\": ").append(rest.substring(cut + 1));
      s.append("}");
    }
    return s.append("]").toString();
  }

  private static void codes() {
    values("""
        -- 51 base64.encode s, 52 base64.decode s (with =; none if it is no such); 52: bits that no byte has: none
        [base64.encode(""), base64.encode("a"), base64.encode("ab"), base64.encode("abc"), base64.encode("abcd")] => ["","YQ==","YWI=","YWJj","YWJjZA=="]
        base64.encode("\\u0000\\u00ff\\u00fb\\u00ef\\u00be") => "AP/7774="
        base64.decode("AP/7774=") => "\\u0000ÿûï¾"
        [base64.decode(""), base64.decode("YQ=="), base64.decode("YWI="), base64.decode("YWJj"), base64.decode("YWJjZA==")] => ["","a","ab","abc","abcd"]
        base64.decode("09+/") => "Óß¿"
        base64.decode("YQ") => none
        base64.decode("YQ=") => none
        base64.decode("YQ===") => none
        base64.decode("Y") => none
        base64.decode("Y===") => none
        base64.decode("====") => none
        base64.decode("=") => none
        base64.decode("YQ==YQ==") => none
        base64.decode("Y=Q=") => none
        base64.decode("YR==") => none
        base64.decode("YWJ=") => none
        base64.decode("YW-_") => none
        base64.decode("YW J") => none
        base64.decode("YWJj\\n") => none
        base64.decode("YWJ\\u00e9") => none
        base64.decode("YQ=Q") => none
        hex.encode(base64.decode("ABCDEFGHIJKLMNOPQRSTUVWXYZabcdefghijklmnopqrstuvwxyz0123456789+/")) => "00108310518720928b30d38f41149351559761969b71d79f8218a39259a7a29aabb2dbafc31cb3d35db7e39ebbf3dfbf"
        base64.encode(hex.decode("00108310518720928b30d38f41149351559761969b71d79f8218a39259a7a29aabb2dbafc31cb3d35db7e39ebbf3dfbf")) => "ABCDEFGHIJKLMNOPQRSTUVWXYZabcdefghijklmnopqrstuvwxyz0123456789+/"
        base64.decode("YW@j") => none
        base64.decode("YW[j") => none
        base64.decode("YW`j") => none
        base64.decode("YW{j") => none
        base64.decode("YW:j") => none
        base64.decode("YW.j") => none
        base64.decode("YW*j") => none
        base64.decode("YW,j") => none
        -- 53 hex.encode s (small), 54 hex.decode s: great letters, too, none of an odd number
        hex.encode("") => ""
        hex.encode("\\u0000\\u000fz\\u00ff") => "000f7aff"
        hex.decode("") => ""
        hex.decode("7aFf0A") => "zÿ\\n"
        hex.decode("7") => none
        hex.decode("7a7") => none
        hex.decode("7g") => none
        hex.decode("g7") => none
        hex.decode("7@") => none
        hex.decode("7`") => none
        hex.decode("7G") => none
        hex.decode("7:") => none
        hex.decode("7/") => none
        hex.decode(" 7") => none
        -- 55 urlquery.encode s (letters, digits, - _ . ~ stay, a blank is +, others % and two great digits)
        urlquery.encode("azAZ09-_.~ ") => "azAZ09-_.~+"
        urlquery.encode("+%&=\\n\\u00ff\\u0000*'()!") => "%2B%25%26%3D%0A%FF%00%2A%27%28%29%21"
        urlquery.encode("@[`{/:") => "%40%5B%60%7B%2F%3A"
        urlquery.encode("") => ""
        -- 56 urlquery.decode s (none if behind % there are not two hexadecimal digits): + is a blank
        urlquery.decode("a+b%20c%2b%2B%fF") => "a b c++ÿ"
        urlquery.decode("") => ""
        urlquery.decode("&=/") => "&=/"
        urlquery.decode("%41") => "A"
        urlquery.decode("%0a%00%F0%0F") => "\\n\\u0000ð\\u000f"
        urlquery.decode("%") => none
        urlquery.decode("%4") => none
        urlquery.decode("a%4") => none
        urlquery.decode("%4g") => none
        urlquery.decode("%g4") => none
        urlquery.decode("%%41") => none
        urlquery.decode("%+1") => none
        -- 57 json.marshal x: its JSON. 58 json.unmarshal s: a JSON TEXT (none if it is WRONG)
        json.marshal("a\\"\\u0001") => "\\"a\\\\\\"\\\\u0001\\""
        json.marshal([null, {1, "a"}, {2: set()}, -0.5]) => "[null,[1,\\"a\\"],{\\"2\\":[]},-0.5]"
        json.marshal({[1]: 2, "[1]": 3}) => "{\\"[1]\\":3,\\"[1]\\":2}"
        json.unmarshal("{\\"a\\":[1,2.50,true],\\"a\\":null}") => {"a":null}
        json.unmarshal(" [ ] ") => []
        json.unmarshal("\\"\\\\u0041\\"") => "A"
        json.unmarshal("") => none
        json.unmarshal(" ") => none
        json.unmarshal("[1,]") => none
        json.unmarshal("1 2") => none
        json.unmarshal("1.0000000") => none
        json.unmarshal("1000000000000.000001") => none
        json.unmarshal("[[[[[[[[[[[[1]]]]]]]]]]]]") => [[[[[[[[[[[[1]]]]]]]]]]]]
        json.unmarshal("[[[[[[[[[[[[[1]]]]]]]]]]]]]") => none
        json.unmarshal("set()") => none
        """);
  }

  /** A text's end is its end, whatever stands behind it in another one. */
  private static void ends() {
    values("""
        [startswith("zb", "zb4"), "abc", "zb"] => [false,"abc","zb"]
        [strings.includes("zc", "zc4"), "abc"] => [false,"abc"]
        [indexof("zd", "d4a"), "abc"] => [-1,"abc"]
        [strings.count("ze", "e4"), "abc"] => [0,"abc"]
        [replace("zf", "f4", ""), "abc"] => ["zf","abc"]
        [split("zg", "g4"), "abc"] => [["zg"],"abc"]
        [trim_prefix("zh", "zh4"), "abc"] => ["zh","abc"]
        [endswith("i", "zi"), trim_suffix("j", "zj")] => [false,"j"]
        [base64.decode("YWJ"), "a01"] => none
        [base64.decode("YW"), "a02"] => none
        [hex.decode("41f"), "a03"] => none
        [hex.decode("4"), "a04"] => none
        [urlquery.decode("w%4"), "a05"] => none
        [urlquery.decode("w%"), "a06"] => none
        [to_number("-"), "1", "abc"] => none
        [to_number("1."), "123", "abc"] => none
        [sprintf("y%", [1]), "abc"] => none
        [json.unmarshal("[1"), "abc", "]"] => none
        [json.unmarshal("tru"), "e"] => none
        [json.unmarshal("\\"\\\\u00"), "4a1"] => none
        [regex.match("a{2", "aa"), "}"] => none
        [regex.match("[a", "a"), "]"] => none
        [glob.match("[b", [], "b"), "]"] => none
        [glob.match("q\\\\", [], "q"), "abc"] => none
        [units.parse_bytes("3"), "K"] => [3,"K"]
        [semver.is_valid("1.0.0-"), "abc"] => [false,"abc"]
        [net.cidr_contains("1.2.3.4/", "1.2.3.4"), "abc"] => none
        """);
    // Many strings, each of which is itself alone.
    StringBuilder s = new StringBuilder();
    for (char a = 'a'; a <= 'z'; a++) {
      for (char b = 'a'; b <= 'z'; b++) s.append('"').append(a).append(b).append("\",");
    }
    is("count({" + s + "\"zz\"})", "676");
    is("count({" + s.toString().replace("\",", "x\",") + "\"zzx\"})", "676");
  }

  /** What is made of an operand that is TOO GREAT (a with makes such a one) is TOO GREAT itself, or has its value. */
  private static void great() {
    // data.k has the WEIGHT 4001: 1 + (2 + 3991) + (2 + 5).
    world("{\"k\":{\"l\":\"" + "x".repeat(3990) + "\"}}", null);
    each("""
        count(data.k) => 2
        is_object(data.k) => true
        type_name(data.k) => "object"
        data.k.m => "abcd"
        [data.k] => great
        {1: data.k} => great
        object.keys(data.k) => {"l","m"}
        object.filter(data.k, ["l"]) => fits
        object.filter(data.k, {"m"}) => {"m":"abcd"}
        object.filter(data.k, []) => {}
        object.filter(data.k, data.k) => great
        object.remove(data.k, ["l"]) => {"m":"abcd"}
        object.remove(data.k, {"m": 1}) => fits
        object.remove(data.k, []) => great
        object.union(data.k, {}) => great
        object.union({}, data.k) => great
        object.union({"k": 1}, {"k": data.k}) => great
        object.union(data.k, {"l": 1}) => {"l":1,"m":"abcd"}
        object.get(data.k, "m", 0) => "abcd"
        object.get(data.k, ["l", 1], 0) => 0
        object.get(data.k, [], 0) => great
        object.get({}, 1, data.k) => great
        json.marshal(data.k) => great
        walk(data.k) => great
        (data.k == data.k) => true
        (data.k < {}) => false
        ("abcd" in data.k) => true
        (2 in data.k) => false
        to_number(data.k) => none
        abs(data.k) => none
        json.patch(data.k, []) => great
        json.patch(data.k, [{"op": "remove", "path": "/l"}]) => {"m":"abcd"}
        json.patch(data.k, [{"op": "remove", "path": "/m"}]) => fits
        json.patch(data.k, [{"op": "remove", "path": "/z"}]) => none
        json.patch(data.k, [{"op": "replace", "path": "", "value": 5}]) => 5
        json.patch(data.k, [{"op": "test", "path": "/m", "value": "abcd"}, {"op": "remove", "path": "/l"}]) => great
        json.patch(data.k, [{"op": "add", "path": "/z", "value": 1}, {"op": "remove", "path": "/l"}]) => great
        """, line -> {
      int at = line.lastIndexOf(" => ");
      String due = line.substring(at + 4);
      String e = due.equals("great") ? "(" + line.substring(0, at) + " == 5)" : line.substring(0, at);
      String q = "x := " + e + " with data.k.m as \"abcd\"";
      ready(q.length(), due.length() + 20);
      if (due.equals("fits")) same(q, d.number(q), "1");
      else if (due.equals("none")) same(q, d.ask(q, true), "-103");
      else same(q, d.ask(q), due.equals("great") ? "-102" : "[" + due + "]");
    });
    world("{\"h\":\"" + ",".repeat(1999) + "\"}", "\"" + ",".repeat(2000) + "\"");
    asks("""
        count(split(data.h, "")) == 1999 => []
        count(split(input, "")) == 2000 => -102
        count(split(data.h, ",")) == 2000 => []
        count(split(replace(input, ",", ",,"), ",")) == 4001 => -102
        count(split(replace(input, ",,", ",z"), ",")) == 1001 => []
        count(strings.reverse(input)) == 2000 => []
        count(hex.encode(data.h)) == 3998 => []
        count(hex.encode(input)) == 4000 => -102
        count(base64.encode(input)) == 2668 => []
        count(urlquery.encode(data.h)) == 5997 => -102
        count(replace(data.h, ",", "ab")) == 3998 => []
        count(replace(input, ",", "ab")) == 4000 => -102
        count(sprintf("%s%%", [input])) == 2001 => []
        count(sprintf("%v", [[input]])) == 2004 => []
        count(json.marshal(input)) == 2002 => []
        """);
    world("{\"k\":{\"" + "x".repeat(3990) + "\":1}}", null);
    asks("""
        count(object.keys(data.k)) == 2 with data.k.abcdefg as 1 => []
        count(object.keys(data.k)) == 2 with data.k.abcdefgh as 1 => -102
        count(object.filter(data.k, ["abcdefgh"])) == 1 with data.k.abcdefgh as 1 => []
        count([1 | some k, _ in data.k]) == 2 with data.k.abcdefgh as 1 => []
        count([1 | data.k[_]]) == 2 with data.k.abcdefgh as 1 => []
        """);
    world(null, null);
  }

  /** walk at its edges: a WEIGHT of 4000 and 4001, 20 DEEP and 21. */
  private static void walks() {
    for (int n = 3996; n <= 3997; n++) {
      d = new Desk();
      d.input("\"" + "x".repeat(n) + "\"");
      same("walk of a string of " + n, d.ask("count(walk(input)) == 1"), n == 3996 ? "[]" : "-102");
      same("its FUEL", d.h().about(2), 1 + n + 1 + 4000 + (n == 3996 ? 4000 + 1 + 2 + 1 + 1 : 0));
    }
    // An array of a string of n bytes and numbers: n stands twice in it.
    int[][] arrays = {{1995, 0, 3999}, {1996, 0, 4001}, {1993, 1, 4000}, {1994, 1, 4002}};
    for (int[] a : arrays) {
      d = new Desk();
      d.input("[\"" + "x".repeat(a[0]) + "\"" + ",5".repeat(a[1]) + "]");
      same("walk that has a WEIGHT of " + a[2], d.ask("count(walk(input)) == " + (2 + a[1])), a[2] <= 4000 ? "[]" : "-102");
      same("its FUEL", d.h().about(2), 1 + 2 + a[0] + a[1] + (a[2] > 4000 ? 4000 : 2 * a[2] + 1 + 2 + 1 + 1));
    }
    d = new Desk();
    d.input("[".repeat(12) + "1" + "]".repeat(12));
    same("walk of what is 18 DEEP", d.number("a := [[[[[input]]]]]; count(walk(a)) == 18"), "1");
    same("walk of what is 19 DEEP", d.ask("a := [[[[[input]]]]]; count(walk([a])) == 19"), "-102");
    same("walk of what is 20 DEEP", d.ask("a := [[[[[input]]]]]; count(walk([[a]])) == 20"), "-102");
    same("walk of keys that are 17 DEEP", d.ask("a := [[[[input]]]]; count(walk({a: 1})) == 2; x := 1"), "[" + "[".repeat(16) + "1" + "]".repeat(16) + ",1]");
    same("walk of keys that are 18 DEEP", d.ask("a := [[[[[input]]]]]; count(walk({a: 1})) == 2; x := 1"), "-102");
  }

  public static void main(String[] args) {
    numbers();
    strings();
    rows();
    walks();
    patches();
    codes();
    ends();
    great();
    Desk.end("calls");
  }
}
