// Part V of the document, 59 to 68: patterns, nets, versions, units, times, with what VI tells of them.
public final class PolicyHousePatterns extends Sheet {
  /** A string as it is written in a query; ~ is the empty one. */
  private static String quoted(String s) {
    return "\"" + (s.equals("~") ? "" : s.replace("\\", "\\\\").replace("\"", "\\\"")) + "\"";
  }

  /** Texts parted by blanks (NONE: none), each with the pattern ahead of it. */
  private static void match(String call, String texts, String due) {
    if (texts.equals("NONE")) return;
    for (String text : texts.split(" ")) is(call + quoted(text) + ")", due);
  }

  /** Lines "pattern : texts in which it is : texts in which it is not". */
  private static void regexes(String table) {
    each(table, line -> {
      String[] parts = line.split(" : ");
      String call = "regex.match(" + quoted(parts[0]) + ", ";
      match(call, parts[1], "true");
      if (parts.length > 2) match(call, parts[2], "false");
    });
  }

  private static void regex(String pattern, String text, String due) {
    is("regex.match(" + quoted(pattern) + ", " + quoted(text) + ")", due);
  }

  private static void regexes() {
    regexes("""
        -- whether the first, a pattern, is somewhere in the second: bytes themselves
        abc : abc xabcx ababc : ab ~ acb ABC
        é : é xéx : e ~
        , : a,b : ab
        - : a-b : ab
        a/b"c': : a/b"c': : a/b
        -- the empty pattern is everywhere
        () : ~ a
        -- ^ the beginning, $ the end
        ^a : a ab : ba ~
        a$ : a ba : ab ~
        ^$ : ~ : a
        ^ : ~ a
        $ : ~ a
        a^ : NONE : a aa
        $a : NONE : a aa
        ^^a$$ : a : aa
        (^a|b)c : ac bc xbc : xac
        a($|b) : a xab : ac
        -- . any but 10
        a.c : abc a.c aéc : ac abbc
        ^.$ : a é : ~ aa
        -- ( ); | ; empty ones between | and in ( ) are right
        a|b : a b xbx : c ~
        ab|cd : ab cd : ac bd
        ^(a|b)$ : a b : ab ~
        ^(a||b)$ : a b ~ : ab
        ^(|a)$ : ~ a : aa
        ^(a|)$ : ~ a : aa
        ^|a : ~ x
        ^(a()b)$ : ab : a
        ^((a)(b))$ : ab : a
        ^a|b$ : ax xb : xax
        -- * + ? {n} {n,} {n,m} behind one of these
        ^a*$ : ~ a aaa : b ab
        ^a+$ : a aaa : ~ ab
        ^a?$ : ~ a : aa
        ^a{0}$ : ~ : a
        ^a{1}$ : a : ~ aa
        ^a{3}$ : aaa : aa aaaa
        ^a{0,}$ : ~ a aaa : b
        ^a{2,}$ : aa aaaa : a ~
        ^a{0,0}$ : ~ : a
        ^a{0,2}$ : ~ a aa : aaa
        ^a{1,3}$ : a aa aaa : ~ aaaa
        ^a{2,2}$ : aa : a aaa
        ^a{20}$ : aaaaaaaaaaaaaaaaaaaa : aaaaaaaaaaaaaaaaaaa aaaaaaaaaaaaaaaaaaaaa
        ^a{19,20}$ : aaaaaaaaaaaaaaaaaaa aaaaaaaaaaaaaaaaaaaa : aaaaaaaaaaaaaaaaaa aaaaaaaaaaaaaaaaaaaaa
        ^a{20,}$ : aaaaaaaaaaaaaaaaaaaa aaaaaaaaaaaaaaaaaaaaaaa : aaaaaaaaaaaaaaaaaaa
        ^(ab)*$ : ~ ab abab : aba
        ^(ab)+$ : ab abab : ~ abb
        ^(ab)?c$ : c abc : ababc
        ^(a|bc){2}$ : aa abc bca bcbc : a abcbc
        ^(a*)*$ : ~ aaa : b
        ^(a*b*)*c$ : c abbac : abba
        ^(a+)+$ : aaa : ~ aab
        ^(a?b){1,2}$ : b ab abb bab abab : bbb a
        ^[ab]{2}$ : ab ba : a abc
        ^\\d{2,3}$ : 12 123 : 1 1234
        ^.*b$ : b ab aab : ba
        ^.{2}$ : ab : a abc
        ^(){5}a$ : a : ~
        -- .. also behind . ^ $ )
        ^*a : a xa
        ^+a : a : xa
        ^?a : a xa
        a$* : a ab
        a$+ : a : ab
        x^{0}y : xy : x
        (^){2}a : a : xa
        -- \\ and one of these that one
        ^\\\\\\^\\$\\.\\[\\]\\|\\(\\)\\?\\*\\+\\{\\}$ : \\^$.[]|()?*+{} : \\^$.[]|()?*+
        \\. : . a.b : ab
        \\** : ~ * a
        -- \\d 0 .. 9, \\w 0 .. 9 A .. Z a .. z _, \\D \\W what is not
        ^\\d$ : 0 5 9 : / a ~ é
        ^\\w$ : 0 9 A Z a z _ : / @ [ ` { - é
        ^\\D$ : / a é _ : 0 5 9
        ^\\W$ : / @ [ ` { - é : 0 9 A Z a z _
        -- [ ITEMS ], [^ ITEMS ] (not), one ITEM at least
        ^[abc]$ : a b c : d ~ ab
        ^[^abc]$ : d é ^ : a b c ~
        ^[a-c]$ : a b c : d ` -
        ^[a-a]$ : a : b -
        ^[a-cx-z0]$ : a c x z 0 : d w 1 -
        ^[^a-c]$ : d ` : a b c
        ^[.$|()?*+{}]$ : . $ | ( ) ? * + { } : a \\
        ^[[]$ : [ : ] a
        ^[a^]$ : a ^ : b
        ^[^^]$ : a : ^
        ^[\\]\\[\\\\\\-]$ : ] [ \\ - : a ^
        ^[\\^a]$ : ^ a : b
        ^[\\--/]$ : - . / : , 0
        ^[+-\\-]$ : + , - : .
        ^[!-é]$ : ! a é : ê
        -- \\d \\w \\s, great ones too, may stand in [ ]
        ^[\\d]$ : 0 9 : a
        ^[^\\d]$ : a : 0 9
        ^[\\w.]$ : a _ . : -
        ^[\\Da5]$ : a b 5 : 0 9
        ^[\\W\\d]$ : 5 - : a _
        ^[^\\W]$ : a 5 _ : -
        ^[x\\d\\-y]$ : x 5 - y : z
        -- one way is not left for another one
        ^(a(x|y)|ab)$ : ax ay ab : a axb aab
        ^(a(x|y|z)|ab|(a|b)c)$ : ab ac bc az : bb
        ^(a|ab)(c|bcd)$ : ac abc abcd abbcd : abd
        (a|ab|abc|abcd)e : abcde abce abe ae : abcd
        ^(a*|b)*c : aabbac c : aabb
        -- somewhere
        b : abc : ac
        b+c : abbc : ab
        (b|c)d : abd acd : ad
        """);
    values("""
        -- . any but 10; \\s 9 10 12 13 32, \\S what is not
        regex.match(`^.$`, "\\n") => false
        regex.match(`a.b`, "a\\nb") => false
        regex.match(`^[^a]$`, "\\n") => true
        regex.match(`^\\D$`, "\\n") => true
        regex.match(`^.$`, "\\u0000") => true
        regex.match(`^.$`, "\\r") => true
        regex.match(`^\\s{5}$`, "\\t\\n\\f\\r ") => true
        regex.match(`\\s`, "\\u000b") => false
        regex.match(`\\s`, "\\b\\u000e!\\u00a0") => false
        regex.match(`\\S`, "\\t\\n\\f\\r ") => false
        regex.match(`^\\S\\S$`, "\\u000ba") => true
        regex.match(`^[\\s]$`, "\\n") => true
        regex.match(`^[^\\s]$`, "\\n") => false
        regex.match(`^[\\S]$`, "\\n") => false
        regex.match(`a$`, "a\\n") => false
        regex.match(`^b`, "a\\nb") => false
        regex.match("a\\nb", "a\\nb") => true
        regex.match("", "") => true
        regex.match("", "abc") => true
        regex.match("\\u0000", "a\\u0000") => true
        """);
    String[] none = {"*", "+", "?", "{1}", "a**", "a*+", "a*?", "a+*", "a?{2}", "a{2}*", "a{2}{2}", "(*)", "(+a)", "a|*", "|+", "^**", "(a)?*",
      "(", ")", "(a", "a)", "(a))", "((a)", "a(b|c", "[", "]", "[]", "[]]", "[^]", "[^", "[a", "[a-", "[a-]", "[A-]", "[A-]]", "[!-]]", "[-]", "[-a]", "[a-b-c]", "[b-a]", "[\\d-z]", "[a-\\d]",
      "[\\w-\\d]", "[\\", "[\\]", "[\\a]", "[\\x]", "[a\\]", "\\", "a\\", "\\a", "\\n", "\\x", "\\ ", "\\-", "\\/", "\\e", "\\_", "{", "}", "a{", "a}", "a{}", "a{,}", "a{,2}", "a{2", "a{2,", "a{2,3",
      "a{x}", "a{2x}", "a{2,x}", "a{-1}", "a{ 2}", "a{2 }", "a{2, 3}", "a{1,2,3}", "a{3,2}", "a{1,0}", "a{21}", "a{21,}", "a{0,21}", "a{20,21}", "a{100}", "a{99999999999}", "a{4294967297}",
      "a{00}", "a{01}", "a{1,02}", "a{0,00}", "a{2}}", "[[]]"};
    for (String s : none) regex(s, "a", "none");
    // (n, m 0 .. 20), has more than 5 ( within one another, or more than 300 parts, repeats written out
    regex("(((((a)))))", "a", "true");
    regex("((((((a))))))", "a", "none");
    regex("(((((a)))))(((((b)))))", "ab", "true");
    regex("((((((a)){0}))))", "a", "none");
    regex("()()()()()()()a", "a", "true");
    regex("((((((", "a", "none");
    String[][] parts = {{"a", "1"}, {".", "1"}, {"[abc]", "1"}, {"\\d", "1"}, {"(^|a)", "3"}, {"($|a)", "3"}, {"(a|)", "2"}, {"a*", "2"}, {"a+", "2"}, {"a?", "2"},
      {"a{3}", "3"}, {"a{0,2}", "4"}, {"a{2,5}", "8"}, {"a{2,}", "4"}, {"a{0,}", "2"}, {"(ab)*", "3"}, {"(ab)+", "3"}, {"(ab){2,3}", "7"}, {"(ab){2,}", "7"}, {"(ab){3}", "6"},
      {"((ab)*){2}", "6"}, {"(a|b){2}", "6"}, {"()*", "1"}, {"()?", "1"}, {"(){0,3}", "3"}, {"(){3,}", "1"}, {"(){7}a", "1"}, {"a{0}b", "1"}, {"(a{20}){0}b", "1"}, {"^*", "2"}, {"(a*){3,4}", "9"}};
    for (String[] p : parts) {
      int one = Integer.parseInt(p[1]);
      int n = 300 / one;
      String full = p[0].repeat(n) + "b".repeat(300 - n * one);
      is("type_name(regex.match(`" + full + "`, \"\"))", "\"boolean\"");
      is("regex.match(`" + full + "b`, \"\")", "none");
      is("regex.match(`" + full + "|`, \"\")", "none");
    }
    is("regex.match(`(a{20}){15}`, \"" + "a".repeat(300) + "\")", "true");
    is("regex.match(`(a{20}){15}`, \"" + "a".repeat(299) + "\")", "false");
    is("regex.match(`(a{20}){15}()`, \"" + "a".repeat(300) + "\")", "true");
    is("regex.match(`(a{20}){15}a`, \"" + "a".repeat(301) + "\")", "none");
    is("regex.match(`((a{20}){20}){20}`, \"\")", "none");
    is("regex.match(`(((((a{20}){20}){20}){20}){20}){20}`, \"\")", "none");
    is("regex.match(`(((((a{20}){20}){20}){20}){20}){0}`, \"\")", "true");
    for (String[] p : new String[][] {{"ac", "true"}, {"bd", "true"}, {"aa", "false"}, {"cc", "false"}, {"ca", "false"}}) is("regex.match(`(" + ".".repeat(2200) + "){0}[ab][cd]`, \"" + p[0] + "\")", p[1]);
    is("regex.match(`(((((a{20}){20}){20}){20}){20}){0}" + "b".repeat(300) + "`, \"\")", "false");
  }

  /** Lines "pattern : DELIMITERS : texts that it is : texts that it is not". */
  private static void globs(String table) {
    each(table, line -> {
      String[] parts = line.split(" : ");
      String call = "glob.match(" + quoted(parts[0]) + ", " + parts[1] + ", ";
      match(call, parts[2], "true");
      if (parts.length > 3) match(call, parts[3], "false");
    });
  }

  private static void globs() {
    globs("""
        -- the first, a pattern, is the whole third: others themselves
        ~ : [] : ~ : a
        abc : [] : abc : ab abcd ABC ~
        a.b : null : a.b : axb
        é : [] : é : e
        -- * any bytes but DELIMITERS, ** any bytes, ? one that is none of these
        * : [] : ~ a a.b/c
        * : null : ~ abc : . a.b
        * : ["/"] : ~ a.b : / a/b
        * : ["/", "."] : ab : a/b a.b
        a*c : null : ac abc abbc : a.c ab bc
        *.* : null : . a.b a. .b : a a.b.c ~
        a*b*c : [] : abc axbyc abbcc : acb
        ** : null : ~ . a.b.c
        a**c : null : ac a.c a.b.c : a.cd
        **.c : null : .c a.c a.b.c : c
        *** : null : ~ a a.b
        ***.* : null : . a.b a.b.c : a
        **** : null : ~ a.b
        ? : [] : a . é : ~ ab
        ? : null : a : . ~ ab
        ?? : null : ab : a a. .a abc
        a?c : ["b"] : axc : abc ac
        -- [ab] [!ab] one that is (not) there, of bytes but ] and ranges a-c
        [ab] : [] : a b : c ~ ab
        [!ab] : [] : c ! : a b ~
        [a-c] : [] : a b c : d - `
        [!a-c] : [] : d - : a c
        [a-cx] : [] : a c x : d
        [a-a] : [] : a : b
        [a!] : [] : a ! : b
        [!!] : [] : a : !
        [*?{,}] : [] : * ? { , } : a
        [[] : [] : [ : a
        [a]] : [] : a] : a ]
        -- - first or last in [ ] itself
        [-a] : [] : - a : b
        [a-] : [] : - a : b
        [!-a] : [] : b : - a
        [!a-] : [] : b : - a
        [-] : [] : - : a
        -- [ ] as told also of DELIMITERS
        [.] : null : . : a
        [!a] : null : . b : a
        [--0] : null : - . / 0 : 1
        [+-0] : ["/"] : + / 0 : 1
        -- \\ in [ ] is itself
        [\\] : [] : \\ : a
        [\\a] : [] : \\ a : b
        [a\\] : [] : \\ a : b
        -- {p,q} one of such (without { }); empty { } right; a , outside of { } itself
        {a,bc} : [] : a bc : b c abc ~
        x{a,b}y : [] : xay xby : xy xaby
        {a} : [] : a : ~ b
        {} : [] : ~ : a
        {,a} : [] : ~ a : b
        {a,} : [] : ~ a : b
        {,} : [] : ~ : ,
        {a,b,c} : [] : a b c : d
        {a*,?b} : null : a ax xb : b x. a.
        {[ab],\\,} : [] : a b , : c
        {[,],x} : [] : , x : [
        {[}],x} : [] : } x : [
        {a,b}{c,d} : [] : ac ad bc bd : ab
        {**,x} : null : a.b x
        a,b : [] : a,b : a
        } : [] : } : {
        a}b : [] : a}b : ab
        ] : [] : ] : [
        -- \\ and a byte that byte
        \\* : [] : * : a \\*
        \\?\\[\\{\\} : [] : ?[{} : a
        \\\\ : [] : \\ : \\\\
        \\a : [] : a : \\a
        \\. : null : . : a
        {\\{,\\}} : [] : { } : ,
        -- DELIMITERS are the bytes of the strings of one byte in an array, . if it is null
        * : ["ab"] : ab a
        * : [""] : ab
        * : [1, null, ["/"], "/"] : a1 : a/b
        * : ["a", "b"] : xy : xa by
        """);
    values("""
        glob.match("*", ["\\n"], "a\\nb") => false
        glob.match("*", [], "a\\nb\\u0000") => true
        glob.match("?", ["\\u00ff"], "\\u00ff") => false
        glob.match("?", [], "\\n") => true
        -- (none for others)
        glob.match("a", ".", "a") => none
        glob.match("a", "", "a") => none
        glob.match("a", 0, "a") => none
        glob.match("a", false, "a") => none
        glob.match("a", {}, "a") => none
        glob.match("a", {"."}, "a") => none
        glob.match("a", set(), "a") => none
        """);
    // none if it is no pattern: [ ] without a byte, also behind !, a range that falls, [ or { without its end
    for (String s : new String[] {"[]", "[]a]", "[!]", "[!]a]", "[", "[a", "[!", "[!a", "[a-", "[a-b", "[b-a]", "[ab-a]", "[é-a]", "{", "{a", "{a,", "{a,b", "{{}}", "{a,{b}}", "{{", "{a{", "\\", "a\\", "{\\", "{a\\}", "{[}", "{[},b}x["}) {
      for (String text : new String[] {"a", "~"}) is("glob.match(" + quoted(s) + ", [], " + quoted(text) + ")", "none");
    }
  }

  private static void nets() {
    String[][] nets = {{"0.0.0.0/0", "255.255.255.255", "true"}, {"255.255.255.255/0", "0.0.0.0", "true"}, {"0.0.0.0/0", "0.0.0.0/0", "true"}, {"10.0.0.0/8", "10.0.0.0/8", "true"},
      {"10.0.0.0/8", "10.255.255.255", "true"}, {"10.0.0.0/8", "11.0.0.0", "false"}, {"10.0.0.0/8", "9.255.255.255", "false"}, {"10.0.0.0/8", "10.1.0.0/7", "false"},
      {"10.0.0.0/8", "10.1.0.0/9", "true"}, {"10.9.9.9/8", "10.1.2.3/30", "true"}, {"1.2.3.4/32", "1.2.3.4/32", "true"}, {"1.2.3.4/32", "1.2.3.4", "true"}, {"1.2.3.4/31", "1.2.3.5", "true"},
      {"1.2.3.4/32", "1.2.3.5", "false"}, {"1.2.3.4/31", "1.2.3.6", "false"}, {"128.0.0.0/1", "255.0.0.1", "true"}, {"128.0.0.0/1", "127.255.255.255", "false"}, {"0.0.0.0/1", "128.0.0.0", "false"},
      {"1.2.3.128/25", "1.2.3.255", "true"}, {"1.2.3.128/25", "1.2.3.127", "false"}, {"1.2.3.4/24", "1.2.3.4/23", "false"}, {"1.2.3.4/0", "9.9.9.9/0", "true"},
      {"1.2.3.4/31", "1.2.3.5/31", "true"}, {"128.0.0.0/1", "128.0.0.0/1", "true"}, {"1.2.3.4/25", "1.2.3.4/25", "true"}, {"1.2.3.4/17", "1.2.3.4/16", "false"}, {"1.2.3.4/17", "1.2.3.4/17", "true"}};
    for (String[] n : nets) is("net.cidr_contains(\"" + n[0] + "\", \"" + n[1] + "\")", n[2]);
    // a.b.c.d/n (0 .. 255, 0 .. 32, no 0 ahead), and such a one or an address; none of strings that are none such
    for (String s : new String[] {"", "1", "1.2.3", "1.2.3/8", "1.2.3.4.5/8", "1.2.3.256/8", "256.2.3.4/8", "1.2.3.1000/8", "1.2.3.4294967296/8", "01.2.3.4/8", "1.2.3.04/8", "1.2.3.00/8", "1.2.3.4/33", "1.2.3.4/00",
      "1.2.3.4/08", "1.2.3.4/032", "1.2.3.4/", "1.2.3.4/-1", "1.2.3.4/8 ", " 1.2.3.4/8", "1.2.3.4 /8", "1.2.3.4/8/8", "1..3.4/8", ".1.2.3/8", "1.2.3./8", "1.2.3.-4/8", "a.2.3.4/8", "1,2,3,4/8", "1.2.3.4/a", "1.2.3.4/100", "::1/8"}) {
      is("net.cidr_contains(\"" + s + "\", \"1.2.3.4\")", "none");
      is("net.cidr_contains(\"1.2.3.4/8\", \"" + s + "\")", "none");
      is("net.cidr_contains(\"1.2.3.4/8\", \"" + s.replaceAll("/.*", "") + "\")", s.matches("1\\.2\\.3\\.4/.*") ? "true" : "none");
    }
    is("net.cidr_contains(\"1.2.3.4\", \"1.2.3.4\")", "none");
  }

  private static void versions() {
    for (String s : new String[] {"0.0.0", "1.2.3", "10.20.30", "99999999999999999999.1.1", "1.0.0-a", "1.0.0-0", "1.0.0-10", "1.0.0-0a", "1.0.0-00a", "1.0.0-a.b.0.1", "1.0.0--", "1.0.0--0", "1.0.0-01-",
      "1.0.0+a", "1.0.0+0", "1.0.0+00", "1.0.0+01.a.-", "1.0.0-a+b", "1.0.0-a.b+c.d", "1.0.0+a-b", "1.0.0-AZaz09-"}) is("semver.is_valid(\"" + s + "\")", "true");
    for (String s : new String[] {"", "1", "1.0", "1.0.", "1.0.0.", "1.0.0.0", "1..0", ".1.0", "01.0.0", "1.00.0", "1.0.00", "00.0.0", "v1.0.0", "1.0.0-", "1.0.0-.a", "1.0.0-a.", "1.0.0-a..b", "1.0.0-01", "1.0.0-a.01", "1.0.0-00",
      "1.0.0-a_b", "1.0.0-é", "1.0.0+", "1.0.0+.", "1.0.0+a.", "1.0.0+a..b", "1.0.0+a+b", "1.0.0+a_", "1.0.0-+", "1.0.0-a+", "1.0.0-+a", "1.0.0 ", " 1.0.0", "1.0.0\\n", "1.0.a", "-1.0.0", "+1.0.0", "1.0.-1", "1,0,0", "1.0.0a"}) {
      is("semver.is_valid(\"" + s + "\")", "false");
      is("semver.compare(\"" + s + "\", \"1.0.0\")", "none");
      is("semver.compare(\"1.0.0\", \"" + s + "\")", "none");
    }
    // by x, y, z; with - is ahead of without; then identifiers: digits as numbers, ahead of others, these byte by byte, fewer first
    String[] rising = {"0.0.0", "0.0.1", "0.0.9", "0.0.10", "0.1.0", "0.9.0", "0.10.0", "1.0.0--", "1.0.0", "1.0.1-0", "1.0.1-1", "1.0.1-9", "1.0.1-10", "1.0.1-99999999999999999998", "1.0.1-99999999999999999999",
      "1.0.1-100000000000000000000", "1.0.1-100000000000000000000.0", "1.0.1--", "1.0.1-0a", "1.0.1-10a", "1.0.1-9a", "1.0.1-A", "1.0.1-a", "1.0.1-a.0", "1.0.1-a.0.0", "1.0.1-a.1", "1.0.1-a.a", "1.0.1-a.b", "1.0.1-a-", "1.0.1-aa", "1.0.1-b", "1.0.1",
      "9.0.0", "10.0.0", "18446744073709551616.0.0", "18446744073709551617.0.0"};
    for (int i = 0; i < rising.length; i++) {
      for (int k = Math.max(0, i - 2); k < Math.min(rising.length, i + 3); k++) is("semver.compare(\"" + rising[i] + "\", \"" + rising[k] + "\")", "" + Integer.compare(i, k));
    }
    is("semver.compare(\"10.0.0\", \"9.9.9\")", "1");
    is("semver.compare(\"1.0.0-a\", \"2.0.0-a\")", "-1");
    // what is behind + is not asked
    is("semver.compare(\"1.0.0+a\", \"1.0.0+b.c\")", "0");
    is("semver.compare(\"1.0.0\", \"1.0.0+b\")", "0");
    is("semver.compare(\"1.0.0-a+z\", \"1.0.0-a+b\")", "0");
    is("semver.compare(\"1.0.0-a+z\", \"1.0.0-b\")", "-1");
    is("semver.compare(\"1.0.0+a\", \"1.0.0-a\")", "1");
    is("semver.compare(\"1.0.0-a.b+z\", \"1.0.0-a+z\")", "1");
  }

  private static void units() {
    String[] names = {"", "B", "K", "KB", "M", "MB", "G", "GB", "Ki", "KiB", "Mi", "MiB", "Gi", "GiB"};
    long[] units = {1, 1, 1000, 1000, 1000000, 1000000, 1000000000, 1000000000, 1024, 1024, 1048576, 1048576, 1073741824, 1073741824};
    for (int i = 0; i < names.length; i++) {
      // small letters too, a blank ahead or not; small and great letters as they come
      for (String n : new String[] {names[i], names[i].toLowerCase(), names[i].toUpperCase()}) {
        is("units.parse_bytes(\"3" + n + "\")", "" + 3 * units[i]);
        is("units.parse_bytes(\"3 " + n + "\")", n.isEmpty() ? "none" : "" + 3 * units[i]);
        is("units.parse_bytes(\"0.5" + n + "\")", "" + units[i] / 2);
        is("units.parse_bytes(\"1.999999" + n + "\")", "" + 1999999 * units[i] / 1000000);
        is("units.parse_bytes(\"" + n + "\")", "none");
        is("units.parse_bytes(\"3" + n + "x\")", "none");
        is("units.parse_bytes(\"3" + n + " \")", "none");
      }
    }
    values("""
        units.parse_bytes("0") => 0
        units.parse_bytes("00012") => 12
        units.parse_bytes("1.5") => 1
        units.parse_bytes("0.000001G") => 1000
        units.parse_bytes("0.000000") => 0
        units.parse_bytes("0.000001K") => 0
        units.parse_bytes("1kIb") => 1024
        units.parse_bytes("1gI") => 1073741824
        -- none of strings that are none such
        units.parse_bytes("1.") => none
        units.parse_bytes("1.K") => none
        units.parse_bytes(".5") => none
        units.parse_bytes("1.1234567") => none
        units.parse_bytes("1.0000000K") => none
        units.parse_bytes("-1") => none
        units.parse_bytes("+1") => none
        units.parse_bytes("1  K") => none
        units.parse_bytes("1\\tK") => none
        units.parse_bytes(" 1") => none
        units.parse_bytes("1 .5") => none
        units.parse_bytes("1e3") => none
        units.parse_bytes("1T") => none
        units.parse_bytes("1KK") => none
        units.parse_bytes("1KBB") => none
        units.parse_bytes("1KiBB") => none
        units.parse_bytes("1BB") => none
        units.parse_bytes("1Bi") => none
        units.parse_bytes("1i") => none
        units.parse_bytes("1iB") => none
        units.parse_bytes("1Kib ") => none
        units.parse_bytes("1K i") => none
        units.parse_bytes("1\\u000bB") => none
        units.parse_bytes("1\\"") => none
        -- none out of bounds
        units.parse_bytes("1000000000000") => 1000000000000
        units.parse_bytes("1000000000000.999999") => 1000000000000
        units.parse_bytes("1000000000001") => none
        units.parse_bytes("1000GB") => 1000000000000
        units.parse_bytes("1000.000000G") => 1000000000000
        units.parse_bytes("1000.000001G") => none
        units.parse_bytes("1001G") => none
        units.parse_bytes("1000000000.000001K") => 1000000000000
        units.parse_bytes("1000000000.001K") => none
        units.parse_bytes("931Gi") => 999653638144
        units.parse_bytes("932Gi") => none
        units.parse_bytes("931.322574Gi") => 999999999339
        units.parse_bytes("931.322575Gi") => none
        units.parse_bytes("99999999999999999999999999999") => none
        units.parse_bytes("18446744073709551617") => none
        units.parse_bytes("18446744073709551616K") => none
        units.parse_bytes("9223372036854775808") => none
        """);
  }

  private static void times() {
    // Gregorian: the days of each month, by the seconds ahead of and at midnight.
    java.time.LocalDate[] days = {java.time.LocalDate.of(1970, 1, 1), java.time.LocalDate.of(1972, 2, 29), java.time.LocalDate.of(1999, 12, 31), java.time.LocalDate.of(2000, 2, 28), java.time.LocalDate.of(2000, 2, 29),
      java.time.LocalDate.of(2000, 3, 1), java.time.LocalDate.of(2000, 12, 31), java.time.LocalDate.of(2001, 1, 1), java.time.LocalDate.of(2100, 2, 28), java.time.LocalDate.of(2100, 3, 1), java.time.LocalDate.of(2400, 2, 29),
      java.time.LocalDate.of(9996, 2, 29), java.time.LocalDate.of(9999, 12, 31), java.time.LocalDate.of(2038, 1, 19), java.time.LocalDate.of(2106, 2, 7)};
    for (java.time.LocalDate day : days) {
      long at = day.toEpochDay() * 86400;
      String date = "[" + day.getYear() + "," + day.getMonthValue() + "," + day.getDayOfMonth() + "]";
      String week = day.getDayOfWeek().toString();
      week = "\"" + week.charAt(0) + week.substring(1).toLowerCase() + "\"";
      for (long s : new long[] {at, at + 86399}) {
        is("time.date(" + s + ")", date);
        is("time.weekday(" + s + ")", week);
        is("time.clock(" + s + ")", s == at ? "[0,0,0]" : "[23,59,59]");
        is("time.seconds([" + date.substring(1, date.length() - 1) + (s == at ? ", 0, 0, 0])" : ", 23, 59, 59])"), "" + s);
      }
    }
    for (int month = 1; month <= 12; month++) {
      for (int year : new int[] {2023, 2024, 2100, 2000}) {
        int last = java.time.YearMonth.of(year, month).lengthOfMonth();
        long at = java.time.LocalDate.of(year, month, last).toEpochDay() * 86400;
        is("time.date(" + at + ")", "[" + year + "," + month + "," + last + "]");
        is("time.date(" + (at + 86400) + ")", month == 12 ? "[" + (year + 1) + ",1,1]" : "[" + year + "," + (month + 1) + ",1]");
        is("time.seconds([" + year + ", " + month + ", " + last + ", 0, 0, 0])", "" + at);
        is("time.seconds([" + year + ", " + month + ", " + (last + 1) + ", 0, 0, 0])", "none");
      }
    }
    values("""
        -- none below 0 or behind 253402300799
        time.date(-1) => none
        time.date(253402300799) => [9999,12,31]
        time.date(253402300800) => none
        time.date(-1000000000000) => none
        time.date(1000000000000) => none
        time.clock(-1) => none
        time.clock(253402300799) => [23,59,59]
        time.clock(253402300800) => none
        time.clock(3599) => [0,59,59]
        time.clock(3600) => [1,0,0]
        time.clock(59) => [0,0,59]
        time.clock(60) => [0,1,0]
        time.weekday(-1) => none
        time.weekday(253402300799) => "Friday"
        time.weekday(253402300800) => none
        -- Monday .. Sunday
        [time.weekday(0), time.weekday(86400), time.weekday(172800), time.weekday(259200), time.weekday(345600), time.weekday(432000), time.weekday(518400), time.weekday(604800)] => ["Thursday","Friday","Saturday","Sunday","Monday","Tuesday","Wednesday","Thursday"]
        -- 68 time.seconds a: of [year, month, day, hour, minute, second] (1970 .. 9999, right ones, else none): six whole numbers
        time.seconds([1970, 1, 1, 0, 0, 0]) => 0
        time.seconds([9999, 12, 31, 23, 59, 59]) => 253402300799
        time.seconds([1969, 12, 31, 23, 59, 59]) => none
        time.seconds([10000, 1, 1, 0, 0, 0]) => none
        time.seconds([2000, 0, 1, 0, 0, 0]) => none
        time.seconds([2000, 13, 1, 0, 0, 0]) => none
        time.seconds([2000, 1, 0, 0, 0, 0]) => none
        time.seconds([2000, 1, 1, -1, 0, 0]) => none
        time.seconds([2000, 1, 1, 24, 0, 0]) => none
        time.seconds([2000, 1, 1, 0, -1, 0]) => none
        time.seconds([2000, 1, 1, 0, 60, 0]) => none
        time.seconds([2000, 1, 1, 0, 0, -1]) => none
        time.seconds([2000, 1, 1, 0, 0, 60]) => none
        time.seconds([2000, 1, 1, 23, 59, 59]) => 946771199
        time.seconds([2000, 1, 1, 1, 1, 1]) => 946688461
        time.seconds([4294969296, 1, 1, 0, 0, 0]) => none
        time.seconds([2000, 4294967297, 1, 0, 0, 0]) => none
        time.seconds([2000, 1, 4294967297, 0, 0, 0]) => none
        time.seconds([2000, 1, 1, 0, 0]) => none
        time.seconds([2000, 1, 1, 0, 0, 0, 0]) => none
        time.seconds([]) => none
        time.seconds([2000.5, 1, 1, 0, 0, 0]) => none
        time.seconds([2000, 1.5, 1, 0, 0, 0]) => none
        time.seconds([2000, 1, 1.5, 0, 0, 0]) => none
        time.seconds([2000, 1, 1, 0.5, 0, 0]) => none
        time.seconds([2000, 1, 1, 0, 0.5, 0]) => none
        time.seconds([2000, 1, 1, 0, 0, 0.5]) => none
        time.seconds(["2000", 1, 1, 0, 0, 0]) => none
        time.seconds([2000, null, 1, 0, 0, 0]) => none
        time.seconds([2000, 1, [1], 0, 0, 0]) => none
        time.seconds([2000.0, 1, 1, 0, 0, 0]) => 946684800
        """);
  }

  public static void main(String[] args) {
    regexes();
    globs();
    nets();
    versions();
    units();
    times();
    Desk.end("patterns");
  }
}
