// Part I of the document: values, texts, THE PRINT, with promises 9, 11, 18 as far as they show it.
public final class PolicyHouseValues extends Sheet {
  private static final String ESCAPED = "\b\f\n\r\t\"\\";

  private static String printOf(int c) {
    int mark = ESCAPED.indexOf((char) c);
    if (mark >= 0) return "\\" + "bfnrt\"\\".charAt(mark);
    return c < 32 ? String.format("\\u%04x", c) : "" + (char) c;
  }

  /** "BYTES are 0 .. 255", "bytes 32 .. 255 but \" and \\", THE PRINT of each. */
  private static void bytes() {
    for (int c = 0; c < 256; c++) {
      String s = "\"" + (char) c + "\"";
      if (c < 32) wrongJson(s, 1);
      else if (c != '"' && c != '\\') json(s, 2, s);
      json(String.format("\"\\u%04x\"", c), 2, "\"" + printOf(c) + "\"");
      json(String.format("\"\\u%04X\"", c), 2, "\"" + printOf(c) + "\"");
    }
    wrongJson("\"\"\"", 2);
    wrongJson("\"\\\"", 3);
  }

  /** "ESCAPES: ..", and at which byte what is none is WRONG. */
  private static void escapes() {
    String signs = "\"\\/bfnrt";
    String meant = "\"\\/\b\f\n\r\t";
    for (int c = 0; c < 256; c++) {
      int i = signs.indexOf((char) c);
      String s = "\"a\\" + (char) c + "\"";
      if (i < 0) wrongJson(s, 2);
      else json(s, 3, "\"a" + printOf(meant.charAt(i)) + "\"");
    }
    jsons("""
        -- behind the \\ with u the first two digits must be 0; the text's end is WRONG at the length
        "\\¿
        "\\u¿
        "\\u0¿
        "\\u00¿
        "\\u00f¿
        "\\u00ff¿
        -- all else that can't go on to be a right number at the \\ (the lowest digit that can't, whatever is behind)
        "¿\\u1
        "¿\\u1000"
        "¿\\u01
        "¿\\u0100"
        "¿\\u0f00"
        "¿\\uffff"
        "¿\\ug
        "¿\\u0g
        "¿\\u00g
        "¿\\u00fg
        "¿\\u00g0"
        "¿\\u0 00"
        "¿\\u"
        "¿\\u00f"
        "¿\\U0041"
        -- four hexadecimal digits, small or great
        "\\u00aF\\u00Fa" => 3 "¯ú"
        """);
  }

  private static void numbers() {
    jsons("""
        -- perhaps -, then 0 or digits that don't begin with 0, perhaps . and one to six digits
        0 => 1 0
        -0 => 1 0
        -0.0 => 1 0
        10 => 1 10
        9876543210 => 1 9876543210
        0.5 => 1 0.5
        -0.000001 => 1 -0.000001
        1.100000 => 1 1.1
        12.345678 => 1 12.345678
        123456789012.654321 => 1 123456789012.654321
        100.000000 => 1 100
        0.050 => 1 0.05
        0¿0
        0¿1
        -0¿1
        ¿+1
        ¿.5
        -¿.5
        -¿
        -¿-1
        -¿a
        1¿-1
        1¿e5
        1¿E5
        1¿a
        ¿Infinity
        ¿NaN
        -- 1. with no digit behind is WRONG behind the point
        1.¿
        1.¿a
        -1.¿-
        1.¿.5
        1.5¿.
        -- a seventh is WRONG
        1.123456¿7
        1.123456¿7x
        0.000000¿0
        [1,-2.000000¿1]
        -- out of bounds it is WRONG at its first byte, the -
        1000000000000 => 1 1000000000000
        -1000000000000 => 1 -1000000000000
        999999999999.999999 => 1 999999999999.999999
        -999999999999.999999 => 1 -999999999999.999999
        1000000000000.000000 => 1 1000000000000
        ¿1000000000000.000001
        ¿-1000000000000.000001
        ¿1000000000001
        ¿-1000000000001
        [0,¿-10000000000000]
        ¿99999999999999999999999999999999999
        ¿-18446744073709551616
        ¿18446744073709551617
        ¿9223372036854775808
        -- .. by what it has up to its sixth digit is WRONG at its first byte, also where a seventh digit follows
        ¿1000000000000.0000011
        [¿1000000000001.0000000]
        [¿-1000000000000.1234567]
        -- (six digits in bounds: the seventh is WRONG at its place)
        1000000000000.000000¿1
        -1000000000000.000000¿0
        [¿1000000000001.]
        [¿1000000000001x]
        """);
  }

  private static void texts() {
    jsons("""
        -- A JSON TEXT is one value
        1 ¿1
        1¿,
        null¿,null
        {}¿{}
        []¿]
        -- null, false, true
        null => 1 null
        false => 1 false
        true => 1 true
        n¿
        nu¿x
        nul¿
        null¿l
        f¿
        fals¿
        fals¿E
        t¿
        tru¿
        ¿Null
        ¿TRUE
        ¿undefined
        -- [ values with , between ]
        [] => 1 []
        [¿
        [1¿
        [1,¿
        [1,¿]
        [¿,1]
        [1,¿,2]
        [1 ¿2]
        [1¿:2]
        [1¿}
        [¿}
        -- { strings, each with : and a value, with , between }
        {} => 1 {}
        {¿
        {"a¿
        {"a"¿
        {"a" ¿}
        {"a":¿
        {"a":¿}
        {"a":1¿
        {"a":1,¿
        {"a":1,¿}
        {¿,"a":1}
        {¿1:2}
        {¿null:2}
        {¿[]:2}
        {"a"¿,"b"}
        {"a":1¿:2}
        {"a":1¿]
        {"a":1¿;"b":2}
        -- of a key that comes again the later value counts
        {"a":1,"a":2} => 4 {"a":2}
        {"a":[1,2],"b":0,"a":null,"a":[]} => 7 {"a":[],"b":0}
        {"\\u0061":1,"a":2} => 4 {"a":2}
        {"":1,"":2} => 3 {"":2}
        {"a":{"b":1},"a":{"c":2}} => 7 {"a":{"c":2}}
        -- other signs
        ¿'a'
        ¿`a`
        ¿//
        [1¿#
        """);
    wrongJson("- ", 1);
    wrongJson(" ", 1);
    wrongJson("\n\t\r ", 4);
    d = new Desk();
    same("DATA of an empty text", d.data(""), -1);
    same("a patch of an empty text", d.patch(""), -1);
  }

  /** "with blanks (9, 10, 13, 32) between all parts and at both ends". */
  private static void blanks() {
    String[] parts = {"", "{", "\"a\"", ":", "[", "true", ",", "-1.5", "]", ",", "\"b\"", ":", "null", "}", ""};
    for (int c = 0; c < 256; c++) {
      boolean blank = c == 9 || c == 10 || c == 13 || c == 32;
      if (blank) json(String.join((char) c + "" + (char) c, parts), 9, "{\"a\":[true,-1.5],\"b\":null}");
      else if (c < 34 || c == 160) wrongJson("[1," + (char) c, 3);
    }
    for (int i = 1; i < parts.length; i++) {
      StringBuilder s = new StringBuilder();
      for (int k = 0; k < parts.length; k++) s.append(k == i ? "\u000b" : "").append(parts[k]);
      wrongJson(s.toString(), s.indexOf("\u000b"));
    }
  }

  /** "At most 12 brackets [ { are within one another (a 13th is WRONG)." */
  private static void brackets() {
    json("[".repeat(12) + "]".repeat(12), 12, "[".repeat(12) + "]".repeat(12));
    json("[".repeat(12) + "5" + "]".repeat(12) + " ", 13, "[".repeat(12) + "5" + "]".repeat(12));
    json("{\"\":".repeat(12) + "0" + "}".repeat(12), 25, "{\"\":".repeat(12) + "0" + "}".repeat(12));
    String twelve = "[{\"a\":".repeat(6);
    json(twelve + "1" + "}]".repeat(6), 25, twelve + "1" + "}]".repeat(6));
    wrongJson("[".repeat(13) + "]".repeat(13), 12);
    wrongJson("[".repeat(13), 12);
    wrongJson(twelve + "[]" + "}]".repeat(6), twelve.length());
    wrongJson(twelve + "{}" + "}]".repeat(6), twelve.length());
    wrongJson("[[]," + "[".repeat(11) + "{", 4 + 11);
    json("[" + "[],".repeat(12) + "[".repeat(11) + "]".repeat(12), 1 + 12 + 11, "[" + "[],".repeat(12) + "[".repeat(11) + "]".repeat(12));
    json("\"" + "[".repeat(20) + "\"", 21, "\"" + "[".repeat(20) + "\"");
  }

  /** THE ORDER, by sort, comparisons, and what is gone through. */
  private static void order() {
    values("""
        -- THE ORDER: by kinds as told here
        sort([set(), {}, [], "", -1000000000000, true, false, null]) => [null,false,true,-1000000000000,"",[],{},set()]
        sort([{1}, {"": 1}, [null], "z", 5, null]) => [null,5,"z",[null],{"":1},{1}]
        -- numbers by size
        sort([1000000000000, -1000000000000, 0.000001, -0.000001, 0, 1, -1]) => [-1000000000000,-1,-0.000001,0,0.000001,1,1000000000000]
        sort([4294.967296, 2147.483648, 4294.967295, 2147.483647]) => [2147.483647,2147.483648,4294.967295,4294.967296]
        sort([-2147.483648, -4294.967296, -2147.483649, -4294.967297]) => [-4294.967297,-4294.967296,-2147.483649,-2147.483648]
        sort([8589.934592, 6442.450944, 8589.934591]) => [6442.450944,8589.934591,8589.934592]
        sort([2, 10, 1.5]) => [1.5,2,10]
        -- strings byte by byte, a beginning first
        sort(["b", "a", "ab", "", "\\u00ff", "\\u0080", "\\u007f", "aa", "a\\u0000", "\\u0000"]) => ["","\\u0000","a","a\\u0000","aa","ab","b","\u007f","\u0080","ÿ"]
        sort(["10", "9", "Z", "a", "_"]) => ["10","9","Z","_","a"]
        -- arrays element by element, a beginning first
        sort([[2], [1, 5], [1], [], [1, 5, null], [1, "a"], [[]]]) => [[],[1],[1,5],[1,5,null],[1,"a"],[2],[[]]]
        -- a set as the array of its elements in THE ORDER
        sort([{2}, {3, 1}, {1, 2}, set(), {1}, {9, 1, 2}]) => [set(),{1},{1,2},{1,2,9},{1,3},{2}]
        -- an object as the array of its keys in THE ORDER, each with its value behind it
        sort([{"b": 0}, {"a": 2}, {"a": 1, "b": 0}, {"a": 1}, {}, {5: 9}]) => [{},{5:9},{"a":1},{"a":1,"b":0},{"a":2},{"b":0}]
        sort([{"a": 2, "b": 0}, {"b": 9, "a": 1}, {"c": 0, "a": 2}]) => [{"a":1,"b":9},{"a":2,"b":0},{"a":2,"c":0}]
        -- Values are EQUAL if neither is ahead of the other one
        (1 == 1.000000) => true
        (0 == -0) => true
        (1 == 1.000001) => false
        ("1" == 1) => false
        ([] == {}) => false
        ({} == set()) => false
        ("a" == "A") => false
        ([1, {2, 3}, {"a": null}] == [1.0, {3, 2}, {"a": null}]) => true
        ({"a": 1, "b": 2} == {"b": 2, "a": 1}) => true
        ({"a": 1} == {"a": 1, "b": 2}) => false
        ({1} == {1, 2}) => false
        ([1, 2] == [2, 1]) => false
        -- No two keys of an object, no two elements of a set are EQUAL
        {1, 1.0, 2, 1} => {1,2}
        {{1, 2}, {2, 1}, [1], [1.0]} => {[1],{1,2}}
        {1: "a", 1.0: "a"} => {1:"a"}
        count({"a", "a", "b"}) => 2
        -- they are always gone through in THE ORDER
        [e | some e in {3, "a", null, 1}] => [null,1,3,"a"]
        [k | some k, _ in {"b": 1, "a": 2, 5: 3}] => [5,"a","b"]
        [v | some v in {"b": 1, "a": 2, 5: 3}] => [3,2,1]
        """);
    world("{\"b\":3,\"a\":[2],\"c\":{}}", null);
    asks("""
        x := [data[_] | true] => [[[2],3,{}]]
        some k; data[k] => ["a"] ["b"] ["c"]
        s := {3, 1, 2}; x := [s[_] | true] => [{1,2,3},[1,2,3]]
        """);
    world(null, null);
  }

  private static void weights() {
    jsons("""
        -- THE WEIGHT of a value: 1 (of a string: and 1 for each byte of it), and those of all that is in it
        0 => 1 0
        true => 1 true
        "" => 1 ""
        "abc" => 4 "abc"
        "\\u0041\\n" => 3 "A\\n"
        [] => 1 []
        [1,"ab",[null]] => 7 [1,"ab",[null]]
        {} => 1 {}
        {"":0} => 3 {"":0}
        {"ab":"cd","e":{}} => 10 {"ab":"cd","e":{}}
        """);
    world("{\"s\":\"" + "x".repeat(3995) + "\"}", null);
    same("WEIGHT of DATA", d.h().count(3), 1 + 2 + 3996);
    String sets = "true with input as ";
    asks(sets + "{1, \"a\"}", "[]");
    same("FUEL by a set", d.h().about(2), 1 + 4 + 100 + 4 + 1);
    asks(sets + "{[1]: {2}}", "[]");
    same("FUEL by an object", d.h().about(2), 1 + 2 + 2 + 5 + 100 + 5 + 1);
    asks(sets + "set()", "[]");
    same("FUEL by the empty set", d.h().about(2), 1 + 1 + 100 + 1 + 1);
    world(null, null);
  }

  /** "TOO GREAT is a value with a WEIGHT above 4000, or more than 20 DEEP." */
  private static void greats() {
    d = new Desk();
    same("DATA of 4000", d.data("{\"a\":\"" + "x".repeat(3996) + "\"}"), 4000);
    same("its weight", d.h().count(3), 4000);
    d = new Desk();
    same("DATA of 4001", d.data("{\"a\":\"" + "x".repeat(3997) + "\"}"), PolicyHouse.FULL);
    same("nothing happens", d.h().count(3), 1);
    d = new Desk();
    same("INPUT of 4000", d.input("[1," + "\"" + "y".repeat(3997) + "\"]"), 4000);
    d = new Desk();
    same("INPUT of 4001", d.input("[1,2," + "\"" + "y".repeat(3997) + "\"]"), PolicyHouse.FULL);
    same("nothing happens", d.h().count(4), 0);
    d = new Desk();
    d.input("\"" + "z".repeat(3998) + "\"");
    asks("""
        -- 4000 and 4001 in a RUN
        count([input]) == 1 => []
        count([input, 1]) == 2 => -102
        count([[input]]) == 1 => -102
        count({input}) == 1 => []
        count({1: input}) == 1 => -102
        input == input => []
        """);
    same("a result of 4000", d.number("x := input"), "1");
    same("a result of 4001", d.number("x := input; y := 1"), "-102");
    d = new Desk();
    same("13 deep", d.input("[".repeat(12) + "1" + "]".repeat(12)), 13);
    asks("""
        -- 20 DEEP and 21 in a RUN
        a := [[[[[input]]]]]; count([[a]]) == 1 => [[[[[[[[[[[[[[[[[[1]]]]]]]]]]]]]]]]]]
        a := [[[[[input]]]]]; count([[[a]]]) == 1 => -102
        a := [[[[[input]]]]]; count({{a}}) == 1 => [[[[[[[[[[[[[[[[[[1]]]]]]]]]]]]]]]]]]
        a := [[[[[input]]]]]; count({1: {[a]: 2}}) == 1 => -102
        a := [[[[[input]]]]]; x := [a] => [[[[[[[[[[[[[[[[[[1]]]]]]]]]]]]]]]]],[[[[[[[[[[[[[[[[[[1]]]]]]]]]]]]]]]]]]]
        a := [[[[[[input]]]]]]; x := [a] => -102
        """);
  }

  /** "A whole number is one whose millionths end in six 0s. ROUNDED .., halves away from 0." */
  private static void wholes() {
    values("""
        -- A whole number is one whose millionths end in six 0s
        numbers.range(2.0, 1.000000) => [2,1]
        numbers.range(1.000001, 2) => none
        numbers.range(1, 1.999999) => none
        -1.0 % 1 => 0
        5.000001 % 2 => nothing
        5 % 2.000001 => nothing
        -- ROUNDED is to the nearest whole number of millionths, halves away from 0
        0.000001 * 0.5 => 0.000001
        0.000001 * 0.499999 => 0
        0.000003 * 0.5 => 0.000002
        -0.000001 * 0.5 => -0.000001
        -0.000001 * 0.499999 => 0
        -0.000003 * -0.5 => 0.000002
        0.000001 / 2 => 0.000001
        0.000001 / 2.000001 => 0
        0.000005 / -2 => -0.000003
        -0.000001 / 2 => -0.000001
        1 / 3 => 0.333333
        2 / 3 => 0.666667
        -2 / 3 => -0.666667
        """);
  }

  /** THE PRINT and THE JSON of results. */
  private static void prints() {
    d = new Desk();
    String same = "[null,false,-1.5,\"a\\u0001\\\"\\\\/\",[],{},";
    String keys = "{\"k\":{\"l\":[0]}},";
    int q = d.prepare("x := " + same + "set(),{1},{2,{3}}," + keys + "{1:2,null:3,\"s\":4,[5]:6,{\"t\":7}:8,{9}:10,set():11}]");
    same("run", d.h().run(q, false), 1);
    same("PRINT", d.out(d.h().result(0, 0)), "[" + same + "set(),{1},{2,{3}}," + keys + "{null:3,1:2,\"s\":4,[5]:6,{\"t\":7}:8,set():11,{9}:10}]]");
    same("JSON", d.out(d.h().result(0, 1)), "[" + same + "[],[1],[2,[3]]," + keys
        + "{\"null\":3,\"1\":2,\"s\":4,\"[5]\":6,\"{\\\"t\\\":7}\":8,\"[]\":11,\"[9]\":10}]]");
    d.h().release(q);
    q = d.prepare("x := {{[\"q\\\"\\n\"]: 1}: 2, [{[3]: 4}]: 5, {{{1: 1}: 1}: 1}: 1, true: `\\`}");
    same("run", d.h().run(q, false), 1);
    same("PRINT", d.out(d.h().result(0, 0)), "[{true:\"\\\\\",[{[3]:4}]:5,{[\"q\\\"\\n\"]:1}:2,{{{1:1}:1}:1}:1}]");
    same("JSON", d.out(d.h().result(0, 1)), "[{\"true\":\"\\\\\",\"[{\\\"[3]\\\":4}]\":5,\"{\\\"[\\\\\\\"q\\\\\\\\\\\\\\\"\\\\\\\\n\\\\\\\"]\\\":1}\":2,"
        + "\"{\\\"{\\\\\\\"{\\\\\\\\\\\\\\\"1\\\\\\\\\\\\\\\":1}\\\\\\\":1}\\\":1}\":1}]");
  }

  public static void main(String[] args) {
    bytes();
    escapes();
    numbers();
    texts();
    blanks();
    brackets();
    order();
    weights();
    greats();
    wholes();
    prints();
    Desk.end("values");
  }
}
