// The built-ins and signs, each by a query x := .. in a plain and in a STRICT RUN.
public final class PolicyHouseBuiltins extends Sheet {
  private static void signs() {
    is("1 + 2.5", "3.5");
    is("1 - 2.5", "-1.5");
    is("1000000000000 + 0.000001", "nothing");
    is("-1000000000000 - 0.000001", "nothing");
    is("1000000000000 - 0", "1000000000000");
    is("1.5 * -1.5", "-2.25");
    is("0.000001 * 0.5", "0.000001");
    is("-0.000001 * 0.5", "-0.000001");
    is("0.000001 * 0.499999", "0");
    is("1000000 * 1000000", "1000000000000");
    is("1000000 * 1000000.000001", "nothing");
    is("999999.999999 * 999999.999999", "999999999998");
    is("2 / 3", "0.666667");
    is("-2 / 3", "-0.666667");
    is("1 / 3", "0.333333");
    is("1 / 0", "nothing");
    is("0.000001 / 2", "0.000001");
    is("1000000000000 / 0.5", "nothing");
    is("1000000000000 / 1", "1000000000000");
    is("1000000000000 / 0.999999", "nothing");
    is("1000000000000 / 999999999999.999999", "1");
    is("7 % 3", "1");
    is("-7 % 3", "-1");
    is("7 % -3", "1");
    is("7.5 % 3", "nothing");
    is("7 % 0", "nothing");
    is("{1, 2} - {2, 3}", "{1}");
    is("{2, 3} & {3}", "{3}");
    is("({1, 2} | {2, 3} & {3})", "{1,2,3}");
    is("1 + \"a\"", "nothing");
    is("{1} + {2}", "nothing");
    is("({1} | [2])", "nothing");
    is("1 + 2 * 3 - 4", "3");
    is("10 / 4 / 5", "0.5");
    is("(null < false)", "true");
    is("(false < true)", "true");
    is("(true < -5)", "true");
    is("(3 < \"\")", "true");
    is("(\"z\" < [])", "true");
    is("([1] < {})", "true");
    is("({\"a\": 1} < set())", "true");
    is("([1] < [1, 0])", "true");
    is("([2] > [1, 5])", "true");
    is("({1, 3} < {2})", "true");
    is("({\"a\": 2} < {\"b\": 1})", "true");
    is("({\"a\": 1, \"b\": 0} < {\"a\": 2})", "true");
    is("(\"a\" >= \"ab\")", "false");
    is("(1 == 1.0)", "true");
    is("({1, 2} != {2, 1})", "false");
    is("(1 <= 1)", "true");
    is("(2 in [1, 2])", "true");
    is("(2 in {1})", "false");
    is("(2 in {2: 1})", "false");
    is("(1 in {2: 1})", "true");
    is("(1 in 1)", "false");
    is("{1: 2, 1: 2}", "{1:2}");
    is("{1: 2, 1: 3}", "nothing");
    is("{1: 2 | true}", "{1:2}");
    is("{2, 1, 2}", "{1,2}");
    is("set( )", "set()");
    is("{[2]: {1}, null: -0.5}", "{null:-0.5,[2]:{1}}");
  }

  private static void numbers() {
    is("abs(-1.5)", "1.5");
    is("ceil(1.000001)", "2");
    is("ceil(-1.5)", "-1");
    is("floor(-1.5)", "-2");
    is("floor(2)", "2");
    is("round(0.5)", "1");
    is("round(-0.5)", "-1");
    is("round(0.499999)", "0");
    is("ceil(999999999999.5)", "1000000000000");
    is("numbers.range(1, 3)", "[1,2,3]");
    is("numbers.range(3, 1)", "[3,2,1]");
    is("numbers.range(2, 2)", "[2]");
    is("count(numbers.range(1, 500))", "500");
    is("numbers.range(1, 501)", "none");
    is("numbers.range(1.5, 2)", "none");
    is("count(\"abc\")", "3");
    is("count([1])", "1");
    is("count({1: 2})", "1");
    is("count(set())", "0");
    is("count(abs(1))", "none");
    is("sum([1, 2.5])", "3.5");
    is("sum(set())", "0");
    is("sum([1, \"a\"])", "none");
    is("sum([1000000000000, 1, -1])", "none");
    is("sum([1000000000000, -1, 1])", "1000000000000");
    is("sum({1000000000000, -1, 1})", "1000000000000");
    is("product([2, 0.5, 3])", "3");
    is("product([])", "1");
    is("product([0.000001, 0.5, 0.5])", "0.000001");
    is("product([1000000, 1000001, 0])", "none");
    is("product({1000000, 1000001, 0})", "0");
    is("max([1, \"a\", null])", "\"a\"");
    is("min({3, 2})", "2");
    is("max([])", "none");
    is("min(set())", "none");
    is("sort([3, \"a\", 1, 3])", "[1,3,3,\"a\"]");
    is("sort({2, 1})", "[1,2]");
  }

  private static void strings() {
    is("concat(\", \", [\"a\", \"b\"])", "\"a, b\"");
    is("concat(\"\", {\"b\", \"a\"})", "\"ab\"");
    is("concat(\"x\", [])", "\"\"");
    is("concat(\"x\", [1])", "none");
    is("strings.includes(\"abc\", \"bc\")", "true");
    is("strings.includes(\"abc\", \"\")", "true");
    is("strings.includes(\"abc\", \"cb\")", "false");
    is("startswith(\"abc\", \"ab\")", "true");
    is("startswith(\"a\", \"ab\")", "false");
    is("endswith(\"abc\", \"bc\")", "true");
    is("endswith(\"abc\", \"ab\")", "false");
    is("indexof(\"abcb\", \"b\")", "1");
    is("indexof(\"abc\", \"\")", "0");
    is("indexof(\"abc\", \"x\")", "-1");
    is("lower(\"A[Zz\")", "\"a[zz\"");
    is("upper(\"a{Zz\")", "\"A{ZZ\"");
    is("replace(\"aaa\", \"aa\", \"b\")", "\"ba\"");
    is("replace(\"abc\", \"\", \"b\")", "none");
    is("replace(\"abab\", \"b\", \"\")", "\"aa\"");
    is("split(\"a,,b\", \",\")", "[\"a\",\"\",\"b\"]");
    is("split(\"abc\", \"\")", "[\"a\",\"b\",\"c\"]");
    is("split(\"\", \",\")", "[\"\"]");
    is("split(\"\", \"\")", "[]");
    is("split(\",\", \",\")", "[\"\",\"\"]");
    is("strings.reverse(\"abc\")", "\"cba\"");
    is("substring(\"hello\", 0, 2)", "\"he\"");
    is("substring(\"hello\", 1, 3)", "\"ell\"");
    is("substring(\"hello\", 3, 9)", "\"lo\"");
    is("substring(\"hello\", 5, 1)", "\"\"");
    is("substring(\"hello\", 9, 1)", "\"\"");
    is("substring(\"hello\", 2, -1)", "\"llo\"");
    is("substring(\"hello\", -1, 1)", "none");
    is("substring(\"hello\", 0.5, 1)", "none");
    is("trim(\"xyaxby\", \"xy\")", "\"axb\"");
    is("trim_left(\"xxax\", \"x\")", "\"ax\"");
    is("trim_right(\"xaxx\", \"x\")", "\"xa\"");
    is("trim(\"xx\", \"x\")", "\"\"");
    is("trim_prefix(\"aab\", \"a\")", "\"ab\"");
    is("trim_suffix(\"abb\", \"b\")", "\"ab\"");
    is("trim_suffix(\"abb\", \"c\")", "\"abb\"");
    is("trim_space(\" \\t\\na\\u000b b\\u000c\\r\")", "\"a\\u000b b\"");
    is("strings.count(\"aaaaa\", \"aa\")", "2");
    is("strings.count(\"a\", \"\")", "none");
    is("format_int(10.9, 2)", "\"1010\"");
    is("format_int(-10.9, 8)", "\"-12\"");
    is("format_int(-255, 16)", "\"-ff\"");
    is("format_int(-0.9, 10)", "\"0\"");
    is("format_int(1, 3)", "none");
    is("format_int(1000000000000, 2)", "\"1110100011010100101001010001000000000000\"");
    is("to_number(\"-1.50\")", "-1.5");
    is("to_number(\"01\")", "none");
    is("to_number(\" 1\")", "none");
    is("to_number(\"1.1234567\")", "none");
    is("to_number(\"1000000000001\")", "none");
    is("to_number(\"\")", "none");
    is("to_number(true)", "1");
    is("to_number(false)", "0");
    is("to_number(null)", "0");
    is("to_number([])", "none");
    is("to_number(5)", "5");
    is("to_number(-2.5)", "-2.5");
    is("sprintf(\"%d|%x|%s|%v|%v|%%\", [-15.5, 255, \"s\", \"t\", [\"q\"]])", "\"-15|ff|s|t|[\\\"q\\\"]|%\"");
    is("sprintf(\"%d\", [0.5])", "\"0\"");
    is("sprintf(\"%d\", [\"a\"])", "none");
    is("sprintf(\"%s\", [1])", "none");
    is("sprintf(\"%d\", [])", "none");
    is("sprintf(\"\", [1])", "none");
    is("sprintf(\"%q\", [1])", "none");
    is("sprintf(\"%\", [])", "none");
    is("sprintf(\"%v\", [set()])", "\"set()\"");
  }

  private static void rows() {
    is("array.concat([1], [2, 1])", "[1,2,1]");
    is("array.slice([1, 2, 3], 1, 2)", "[2]");
    is("array.slice([1, 2, 3], -5, 9)", "[1,2,3]");
    is("array.slice([1, 2, 3], 2, 1)", "[]");
    is("array.slice([1, 2, 3], 5, 9)", "[]");
    is("array.slice([1, 2, 3], 0.5, 9)", "none");
    is("array.reverse([1, 2, 3])", "[3,2,1]");
    is("object.get({\"a\": 1}, \"a\", 0)", "1");
    is("object.get({\"a\": 1}, \"b\", 0)", "0");
    is("object.get({\"a\": [5, {6}]}, [\"a\", 1, 6], 0)", "6");
    is("object.get({\"a\": [5]}, [\"a\", 1], 0)", "0");
    is("object.get({\"a\": 1}, [], 0)", "{\"a\":1}");
    is("object.get({[\"a\"]: 1}, [\"a\"], 0)", "0");
    is("object.keys({\"b\": 1, 2: 2})", "{2,\"b\"}");
    is("object.remove({\"a\": 1, \"b\": 2}, [\"a\", \"c\"])", "{\"b\":2}");
    is("object.remove({\"a\": 1, \"b\": 2}, {\"b\"})", "{\"a\":1}");
    is("object.filter({\"a\": 1, \"b\": 2}, {\"b\": 5, \"c\": 1})", "{\"b\":2}");
    is("object.filter({\"a\": 1}, \"a\")", "none");
    is("object.remove({\"a\": 1}, 1)", "none");
    is("object.union({\"a\": {\"x\": 1, \"y\": 2}, \"b\": 1}, {\"a\": {\"y\": 3}, \"b\": {}})", "{\"a\":{\"x\":1,\"y\":3},\"b\":{}}");
    is("union({{1}, {2, 3}})", "{1,2,3}");
    is("union(set())", "set()");
    is("union({{1}, 2})", "none");
    is("intersection({{1, 2}, {2, 3}})", "{2}");
    is("intersection(set())", "set()");
    is("intersection({[1], {2}})", "none");
    is("[is_null(null), is_boolean(true), is_number(1), is_string(\"\"), is_array([]), is_object({}), is_set(set())]", "[true,true,true,true,true,true,true]");
    is("[is_null(0), is_boolean(null), is_number(\"\"), is_string([]), is_array({}), is_object(set()), is_set([])]", "[false,false,false,false,false,false,false]");
    is("[type_name(null), type_name(false), type_name(1), type_name(\"\"), type_name([]), type_name({}), type_name(set())]", "[\"null\",\"boolean\",\"number\",\"string\",\"array\",\"object\",\"set\"]");
    is("walk({\"a\": [1, {2}]})", "[[[],{\"a\":[1,{2}]}],[[\"a\"],[1,{2}]],[[\"a\",0],1],[[\"a\",1],{2}],[[\"a\",1,2],2]]");
    is("walk(5)", "[[[],5]]");
  }

  private static void patches() {
    is("json.patch({\"a\": [1, 2]}, [])", "{\"a\":[1,2]}");
    is("json.patch({\"a\": [1, 2]}, [{\"op\": \"add\", \"path\": \"/a/0\", \"value\": 0}, {\"op\": \"add\", \"path\": \"/a/-\", \"value\": 3}])", "{\"a\":[0,1,2,3]}");
    is("json.patch([1], [{\"op\": \"add\", \"path\": \"/1\", \"value\": 0}])", "[1,0]");
    is("json.patch([1], [{\"op\": \"add\", \"path\": \"/2\", \"value\": 0}])", "none");
    is("json.patch([1], [{\"op\": \"add\", \"path\": \"/00\", \"value\": 0}])", "none");
    is("json.patch([1], [{\"op\": \"replace\", \"path\": \"/-\", \"value\": 0}])", "none");
    is("json.patch({\"a\": 1}, [{\"op\": \"add\", \"path\": \"/a\", \"value\": 2}])", "{\"a\":2}");
    is("json.patch({\"a\": 1}, [{\"op\": \"add\", \"path\": \"/b/c\", \"value\": 2}])", "none");
    is("json.patch({\"a\": 1}, [{\"op\": \"add\", \"path\": \"\", \"value\": 2}])", "2");
    is("json.patch({\"a\": 1}, [{\"op\": \"replace\", \"path\": \"\", \"value\": [2]}])", "[2]");
    is("json.patch({\"a\": 1}, [{\"op\": \"remove\", \"path\": \"\"}])", "none");
    is("json.patch({\"a\": 1}, [{\"op\": \"remove\", \"path\": \"/a\"}])", "{}");
    is("json.patch({\"a\": 1}, [{\"op\": \"remove\", \"path\": \"/b\"}])", "none");
    is("json.patch({\"a\": {}}, [{\"op\": \"remove\", \"path\": \"/a/b\"}])", "none");
    is("json.patch({\"a\": [[1]]}, [{\"op\": \"replace\", \"path\": \"/a/0/1\", \"value\": 2}])", "none");
    is("json.patch({\"a\": [[1]]}, [{\"op\": \"replace\", \"path\": \"/a/0/0\", \"value\": 2}])", "{\"a\":[[2]]}");
    is("json.patch({\"a/b\": 1, \"c~d\": 2}, [{\"op\": \"remove\", \"path\": \"/a~1b\"}, {\"op\": \"replace\", \"path\": \"/c~0d\", \"value\": 3}])", "{\"c~d\":3}");
    is("json.patch({\"a\": 1}, [{\"op\": \"test\", \"path\": \"/a~2\", \"value\": 1}])", "none");
    is("json.patch({\"a\": 1}, [{\"op\": \"move\", \"from\": \"/a\", \"path\": \"/b\"}])", "{\"b\":1}");
    is("json.patch({\"a\": {\"b\": 1}}, [{\"op\": \"move\", \"from\": \"/a\", \"path\": \"/a/b\"}])", "none");
    is("json.patch({\"a\": {\"b\": 1}}, [{\"op\": \"move\", \"from\": \"/a/b\", \"path\": \"/a\"}])", "{\"a\":1}");
    is("json.patch([1, 2, 3], [{\"op\": \"move\", \"from\": \"/0\", \"path\": \"/2\"}])", "[2,3,1]");
    is("json.patch([1, 2, 3], [{\"op\": \"move\", \"from\": \"/1\", \"path\": \"/1\"}])", "[1,2,3]");
    is("json.patch({\"a\": 1}, [{\"op\": \"move\", \"from\": \"\", \"path\": \"/a\"}])", "none");
    is("json.patch({\"a\": 1}, [{\"op\": \"copy\", \"from\": \"\", \"path\": \"/b\"}])", "{\"a\":1,\"b\":{\"a\":1}}");
    is("json.patch({\"a\": 1}, [{\"op\": \"copy\", \"from\": \"/b\", \"path\": \"/c\"}])", "none");
    is("json.patch({\"a\": 1}, [{\"op\": \"copy\", \"path\": \"/c\"}])", "none");
    is("json.patch({\"a\": 1}, [{\"op\": \"test\", \"path\": \"/a\", \"value\": 1.0}])", "{\"a\":1}");
    is("json.patch({\"a\": 1}, [{\"op\": \"test\", \"path\": \"/a\", \"value\": 2}])", "none");
    is("json.patch({\"a\": 1}, [{\"op\": \"add\", \"path\": \"/b\"}])", "none");
    is("json.patch({\"a\": 1}, [{\"op\": \"nop\", \"path\": \"/a\", \"value\": 1}])", "none");
    is("json.patch({\"a\": 1}, [{\"op\": \"add\", \"path\": \"a\", \"value\": 1}])", "none");
    is("json.patch({\"a\": 1}, [{\"op\": \"add\", \"value\": 1}])", "none");
    is("json.patch({\"a\": 1}, [1])", "none");
    is("json.patch({\"a\": {1}}, [{\"op\": \"test\", \"path\": \"/a/1\", \"value\": 1}])", "none");
    is("json.patch({1: 2}, [{\"op\": \"add\", \"path\": \"/1\", \"value\": 3}])", "{1:2,\"1\":3}");
    is("json.patch({\"a\": 1}, [{\"op\": \"add\", \"path\": \"/\", \"value\": 3, \"more\": 4}])", "{\"\":3,\"a\":1}");
  }

  private static void codes() {
    is("base64.encode(\"\")", "\"\"");
    is("[base64.encode(\"f\"), base64.encode(\"fo\"), base64.encode(\"foo\")]", "[\"Zg==\",\"Zm8=\",\"Zm9v\"]");
    is("base64.encode(\"\\u00fb\\u00ff\")", "\"+/8=\"");
    is("[base64.decode(\"Zg==\"), base64.decode(\"Zm8=\"), base64.decode(\"Zm9v\"), base64.decode(\"\")]", "[\"f\",\"fo\",\"foo\",\"\"]");
    is("base64.decode(\"Zg=\")", "none");
    is("base64.decode(\"Zh==\")", "none");
    is("base64.decode(\"Zm9=\")", "none");
    is("base64.decode(\"Z===\")", "none");
    is("base64.decode(\"Zg==Zg==\")", "none");
    is("base64.decode(\"Zm9-\")", "none");
    is("base64.decode(\"Z=8=\")", "none");
    is("hex.encode(\"a\\n\\u00ff\")", "\"610aff\"");
    is("hex.decode(\"610aFF\")", "\"a\\n\u00ff\"");
    is("hex.decode(\"3039\")", "\"09\"");
    is("hex.decode(\"6\")", "none");
    is("hex.decode(\"6g\")", "none");
    is("urlquery.encode(\"AzZ9@[`{/:\")", "\"AzZ9%40%5B%60%7B%2F%3A\"");
    is("urlquery.encode(\"aZ0-_.~ /\\u00ff\")", "\"aZ0-_.~+%2F%FF\"");
    is("urlquery.decode(\"a+b%2f%2F/\")", "\"a b///\"");
    is("urlquery.decode(\"%2\")", "none");
    is("urlquery.decode(\"%\")", "none");
    is("urlquery.decode(\"%2g\")", "none");
    is("json.marshal({\"a\": {1}, [1]: \"q\\\"\", {[2]: 3}: 1})", "\"{\\\"a\\\":[1],\\\"[1]\\\":\\\"q\\\\\\\"\\\",\\\"{\\\\\\\"[2]\\\\\\\":3}\\\":1}\"");
    is("json.marshal({1: 2, \"1\": 3})", "\"{\\\"1\\\":2,\\\"1\\\":3}\"");
    is("json.marshal(set())", "\"[]\"");
    is("json.unmarshal(` {\"a\": [1, \"\\u0041\"], \"a\": 2} `)", "{\"a\":2}");
    is("json.unmarshal(\"[1\")", "none");
    is("json.unmarshal(\"\")", "none");
  }

  private static void regexes() {
    String[] yes = {"abc|xabcx", "^abc$|abc", "a.c|abc", "^$|", "a*|", "^a+$|aaa", "^(ab)+$|abab", "^a{2}$|aa",
      "^a{2,}$|aaaa", "^a{0,2}$|", "^a{1,2}b$|aab", "[a-c]+x|cabx", "[^a-c]|d", "\\d\\w\\s|1_ ", "\\D\\W\\S|a-b",
      "[\\d\\-]{3}|1-2", "^(a|b|c)$|c", "^(|a)b$|b", "^()b$|b", "\\.\\*|.*", "[.*]|*", "^(a(b(c(d(e)))))$|abcde",
      "^(a?){3}$|aa", "^[[^]$|^", "x^*y|xy", "^a{0}b|b", "($)+|a"};
    for (String s : yes) {
      int bar = s.lastIndexOf('|');
      is("regex.match(`" + s.substring(0, bar) + "`, `" + s.substring(bar + 1) + "`)", "true");
    }
    is("regex.match(`a`, \"\")", "false");
    is("regex.match(`a.b`, \"a\\nb\")", "false");
    is("regex.match(`a[^x]b`, \"a\\nb\")", "true");
    is("regex.match(`^b`, \"ab\")", "false");
    is("regex.match(`a$`, \"ab\")", "false");
    is("regex.match(`^a{2}$`, \"aaa\")", "false");
    is("regex.match(`^a{2,3}$`, \"aaaa\")", "false");
    is("regex.match(`^(ab|c){2}$`, \"abc\")", "true");
    is("regex.match(`^(ab|c){2}$`, \"ab\")", "false");
    is("regex.match(`(a*)*b`, \"aaac\")", "false");
    is("regex.match(`(a{20}){15}`, \"" + "a".repeat(300) + "\")", "true");
    is("regex.match(`(a{20}){15}`, \"" + "a".repeat(299) + "\")", "false");
    is("regex.match(`(a{20}){15}b`, \"a\")", "none");
    is("regex.match(`((a{20}){20}){0}b`, \"b\")", "true");
    is("regex.match(`((((((a))))))`, \"a\")", "none");
    is("regex.match(`(((((){20}){20}){20}){20}){20}a`, \"a\")", "true");
    is("regex.match(`^((((){0,14}){10}){1}a){2}$`, \"aa\")", "true");
    is("regex.match(`^((((){0,14}){10}){2}a){2}$`, \"aa\")", "none");
    is("regex.match(`[ab](.\u00ff" + ".".repeat(2200) + "){0}`, \"c\")", "false");
    is("regex.match(`[ab](\\d[x](" + "\\w".repeat(1200) + "){1}){0}`, \"xb\")", "true");
    is("regex.match(`(" + "(|a){20}".repeat(40) + "){0}^(((((|))))){20}b$`, \"b\")", "true");
    String[] no = {"a**", "a+?", "a{2}{3}", "*", "(*a)", "a|*", "(", ")", "a)", "(a", "[", "[]", "[^]", "[a", "]", "}", "a{", "a{}", "a{,2}",
      "a{3,2}", "a{21}", "a{01}", "a{1", "a{1,", "a{1x}", "\\", "\\x", "\\n", "[a-]", "[-a]", "[b-a]", "[\\d-z]", "[a-\\d]", "[\\x]", "{1}", "[a-c-e]"};
    for (String s : no) is("regex.match(`" + s + "`, \"a\")", "none");
  }

  private static void globs() {
    String[][] yes = {{"*", "null", "abc"}, {"a*c", "null", "abbc"}, {"**", "null", "a.b"}, {"*.*", "null", "a.b"},
      {"a?c", "null", "abc"}, {"[ab]x", "null", "bx"}, {"[!ab]x", "null", "cx"}, {"[a-c]", "[]", "b"}, {"{ab,c}d", "[]", "abd"},
      {"{a*,}d", "[]", "d"}, {"\\*", "[]", "*"}, {"a,b", "[]", "a,b"}, {"***", "[\"/\"]", "a/b"}, {"*", "[]", "a/b.c"}, {"", "[]", ""},
      {"*", "[\"ab\", 1]", "ab"}, {"[!a]", "null", "."}, {"[.]", "null", "."}, {"[\\]", "[]", "\\"}, {"[-a]", "[]", "-"}, {"[a-]", "[]", "-"},
      {"{}a", "[]", "a"}, {"}]", "[]", "}]"}, {"{[,],\\,}", "[]", ","}, {"{?,**}x", "[]", "x"}, {"[a!]", "[]", "!"}, {"?", "[]", "."}};
    for (String[] s : yes) is("glob.match(`" + s[0] + "`, " + s[1] + ", `" + s[2] + "`)", "true");
    String[][] not = {{"*", "null", "a.b"}, {"a*", "[\"/\"]", "a/b"}, {"?", "null", "."}, {"?", "[\"a\"]", "a"}, {"a", "[]", "ab"},
      {"b", "[]", "ab"}, {"[!a]", "[]", "a"}, {"[ab]", "[]", "ab"}, {"{a,b}", "[]", "c"}, {"", "[]", "a"}};
    for (String[] s : not) is("glob.match(`" + s[0] + "`, " + s[1] + ", `" + s[2] + "`)", "false");
    String[] no = {"[", "[]", "[!]", "[a", "[b-a]", "{a", "{a,{b}}", "\\", "{a,b"};
    for (String s : no) is("glob.match(`" + s + "`, [], `a`)", "none");
    is("glob.match(\"a\", \".\", \"a\")", "none");
    is("glob.match(\"a\", {\".\"}, \"a\")", "none");
  }

  private static void nets() {
    is("net.cidr_contains(\"10.0.0.0/8\", \"10.255.1.2\")", "true");
    is("net.cidr_contains(\"10.1.2.3/8\", \"10.0.0.0/9\")", "true");
    is("net.cidr_contains(\"10.0.0.0/8\", \"10.0.0.0/7\")", "false");
    is("net.cidr_contains(\"10.0.0.0/8\", \"11.0.0.0\")", "false");
    is("net.cidr_contains(\"0.0.0.0/0\", \"255.255.255.255\")", "true");
    is("net.cidr_contains(\"1.2.3.4/32\", \"1.2.3.4\")", "true");
    is("net.cidr_contains(\"1.2.3.4/32\", \"1.2.3.5\")", "false");
    String[] no = {"10.0.0.0", "10.0.0.0/33", "10.0.0/8", "10.0.0.256/8", "10.00.0.0/8", "10.0.0.0/08", "10.0.0.0/", "10.0.0.0/8 ", "a"};
    for (String s : no) is("net.cidr_contains(\"" + s + "\", \"10.0.0.0\")", "none");
    is("net.cidr_contains(\"10.0.0.0/8\", \"10.0.0\")", "none");
    String[] right = {"0.0.0", "1.22.333", "1.2.3-a", "1.2.3-a.0.b-1", "1.2.3-0a", "1.2.3+01", "1.2.3-a+b.c", "1.2.3--", "1.2.3-AZaz09", "99999999999999999999.0.0"};
    for (String s : right) is("semver.is_valid(\"" + s + "\")", "true");
    String[] bad = {"", "1.2", "1.2.3.4", "01.2.3", "1.2.3-", "1.2.3-01", "1.2.3-a..b", "1.2.3+", "1.2.3-a_b", "v1.2.3", "1.2.3 ", "1.2.3+a+b"};
    for (String s : bad) is("semver.is_valid(\"" + s + "\")", "false");
    String[][] order = {{"1.2.3", "1.2.3", "0"}, {"1.2.3", "1.2.10", "-1"}, {"2.0.0", "1.9.9", "1"}, {"1.0.0-a", "1.0.0", "-1"},
      {"1.0.0-1", "1.0.0-a", "-1"}, {"1.0.0-10", "1.0.0-9", "1"}, {"1.0.0-a", "1.0.0-a.1", "-1"}, {"1.0.0-b", "1.0.0-a.1", "1"},
      {"1.0.0+a", "1.0.0+b", "0"}, {"1.0.0-a+x", "1.0.0-a", "0"}, {"1.0.0-A", "1.0.0-a", "-1"}, {"99999999999999999999.0.0", "99999999999999999998.0.0", "1"},
      {"1.0.0-ab", "1.0.0-a", "1"}, {"1.0.0-a.b", "1.0.0-a.1", "1"}};
    for (String[] s : order) is("semver.compare(\"" + s[0] + "\", \"" + s[1] + "\")", s[2]);
    is("semver.compare(\"1.0\", \"1.0.0\")", "none");
    String[][] units = {{"0", "0"}, {"10", "10"}, {"1.5KB", "1500"}, {"1.5 kib", "1536"}, {"1K", "1000"}, {"1Ki", "1024"}, {"2M", "2000000"},
      {"2mIb", "2097152"}, {"1G", "1000000000"}, {"1GiB", "1073741824"}, {"1.9", "1"}, {"1.999999B", "1"}, {"007", "7"}, {"1 ", "none"},
      {"1.", "none"}, {".5", "none"}, {"1.1234567", "none"}, {"1T", "none"}, {"-1", "none"}, {"1  K", "none"}, {"1KBs", "none"}, {"K", "none"},
      {"1iB", "none"}, {"1000G", "1000000000000"}, {"1000.000001G", "none"}, {"1001G", "none"}, {"1000000000000.5", "1000000000000"}, {"1Bi", "none"}};
    for (String[] s : units) is("units.parse_bytes(\"" + s[0] + "\")", s[1]);
  }

  private static void times() {
    is("time.date(0)", "[1970,1,1]");
    is("time.date(951782400)", "[2000,2,29]");
    is("time.date(946684800)", "[2000,1,1]");
    is("time.date(946684799)", "[1999,12,31]");
    is("time.date(978307199)", "[2000,12,31]");
    is("time.date(253402300799)", "[9999,12,31]");
    is("time.date(253402300800)", "none");
    is("time.date(-1)", "none");
    is("time.date(0.5)", "none");
    is("time.date(4107542399)", "[2100,2,28]");
    is("time.date(4107542400)", "[2100,3,1]");
    is("time.clock(86399)", "[23,59,59]");
    is("time.clock(90061)", "[1,1,1]");
    is("time.weekday(0)", "\"Thursday\"");
    is("[time.weekday(86400), time.weekday(172800), time.weekday(259200), time.weekday(345600), time.weekday(432000), time.weekday(518400)]", "[\"Friday\",\"Saturday\",\"Sunday\",\"Monday\",\"Tuesday\",\"Wednesday\"]");
    is("time.seconds([1970, 1, 1, 0, 0, 0])", "0");
    is("time.seconds([2000, 2, 29, 12, 30, 45])", "951827445");
    is("time.seconds([9999, 12, 31, 23, 59, 59])", "253402300799");
    String[] no = {"[1969, 12, 31, 0, 0, 0]", "[2001, 2, 29, 0, 0, 0]", "[2000, 13, 1, 0, 0, 0]", "[2000, 1, 0, 0, 0, 0]", "[2000, 1, 1, 24, 0, 0]",
      "[2000, 1, 1, 0, 60, 0]", "[2000, 1, 1, 0, 0, 60]", "[2000, 1, 1, 0, 0]", "[2000, 1, 1, 0, 0, 0.5]", "[2000, 1, 1, 0, 0, \"0\"]", "[10000, 1, 1, 0, 0, 0]"};
    for (String s : no) is("time.seconds(" + s + ")", "none");
  }

  private static void great() {
    begins("array.concat(numbers.range(1, 500), numbers.range(1, 500))", 2 * 1893 - 1 + 2, "[1,2,3");
    is("[numbers.range(1, 500), numbers.range(1, 500), numbers.range(1, 500), numbers.range(1, 500), numbers.range(1, 500), numbers.range(1, 500), numbers.range(1, 500), numbers.range(1, 500)]", "great");
    is("replace(sprintf(\"%v\", [numbers.range(1, 500)]), \"1\", \"" + "z".repeat(100) + "\")", "great");
    is("sprintf(\"%v%v%v\", [numbers.range(1, 500), numbers.range(1, 500), numbers.range(1, 500)])", "great");
    is("sprintf(\"%v%v%v%q\", [numbers.range(1, 500), numbers.range(1, 500), numbers.range(1, 500)])", "none");
    is("count(walk(numbers.range(1, 500)))", "501");
    is("count(walk([[numbers.range(1, 442)]]))", "445");
    is("count(walk([[numbers.range(1, 443)]]))", "great");
    is("walk([numbers.range(1, 500), numbers.range(1, 500)])", "great");
    is("hex.encode(hex.encode(sprintf(\"%v\", [numbers.range(1, 500)])))", "great");
    begins("{y | some y in numbers.range(1, 500)} - {1}", 1893 - 2 + 2, "{2,3,");
    d = new Desk();
    Desk.same("too many", d.ask("r := numbers.range(1, 500); a := array.concat(r, r); b := array.concat(a, a); x := count(array.concat(b, b))"), "-102");
    Desk.same("not too many", d.number("r := numbers.range(1, 499); a := count(array.concat(r, r)); a == 998"), "1");
    Desk.same("20 deep", d.number("a := [[[[[1]]]]]; b := [[[[[a]]]]]; c := [[[[b]]]]; x := [1 | c == c]; count(x) == 1"), "1");
    Desk.same("21 deep", d.ask("a := [[[[[1]]]]]; b := [[[[[a]]]]]; c := [[[[[b]]]]]; x := [[[[c]]]]; y := [x]"), "-102");
  }

  private static void begins(String e, int bytes, String begin) {
    d = new Desk();
    same(e, d.begin("x := " + e, begin.length() + 1), bytes + " [" + begin);
  }

  public static void main(String[] args) {
    signs();
    numbers();
    strings();
    rows();
    patches();
    codes();
    regexes();
    globs();
    nets();
    times();
    great();
    Desk.end("built-ins");
  }
}
