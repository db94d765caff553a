// Part II of the document (tokens, modules, rules, literals, expressions, terms), with what VI tells of TEXTS.
public final class PolicyHouseModules extends Sheet {
  private static final String[] KEYWORDS = {"package", "import", "as", "default", "if", "contains", "else", "some", "in",
    "every", "not", "with", "true", "false", "null"};
  private static final String LONG = "abcdefghijklmnopqrstuvwx";

  private static void names() {
    rules("""
        -- NAMES: a letter or _, then letters, digits, _
        a := 1
        A := 1
        z := 1
        Z := 1
        _a := 1
        __ := 1
        a9_Z0 := 1
        ¿9a := 1
        ¿é := 1
        a¿é := 1
        a¿-b := 1
        a¿.b := 1
        """);
    rules(("""
        -- at most 24 signs; one that has more is WRONG at its first one
        LONG := LONG
        ¿LONGy := 1
        ¿_LONG := 1
        ¿LONG9 := 1
        a := ¿LONGy
        a := x.¿LONGy
        a := x.LONG
        a := ¿LONGy(1)
        a := x.¿LONGy(1)
        a if { some ¿LONGy }
        a if { some LONG; LONG == 1 }
        a if { every ¿LONGy in x { true } }
        a if { b with input.¿LONGy as 1 }
        a if { b with input.LONG as 1 }
        a if { ¿inputinputinputinputinput with input as 1 }
        a := "LONGLONG"
        a := x["LONGLONG"]
        a := `LONGLONG`
        a := 1 # LONGLONG
        """).replace("LONG", LONG));
    modules(("""
        -- of packages, imports, ALIASES too
        package LONG
        package a.LONG import data.LONG as LONG
        package ¿LONGy
        package a.¿LONGy
        package p import data.¿LONGy
        package p import data.x as ¿LONGy
        ¿packagepackagepackagepack p
        """).replace("LONG", LONG));
  }

  /** "KEYWORDS, which are no names". */
  private static void keywords() {
    for (String k : KEYWORDS) {
      boolean begins = k.equals("import") || k.equals("default");
      wrongRule(k + " := 1", begins ? k.length() + 1 : 0);
      wrongRule("a := 1 " + k + "x", 7 + k.length() + 1);
      wrongModule("package " + k, 8);
      wrongModule("package a." + k, 10);
      wrongModule("package a import data." + k, 22);
      wrongModule("package a import data.b as " + k, 27);
      wrongRule("a := x." + k, 7);
      wrongRule("a := x." + k + "(1)", 7);
      wrongRule("a if { some " + k + " }", k.equals("true") || k.equals("false") || k.equals("null") ? 12 + k.length() + 1 : 12);
      wrongRule("a if { every " + k + " in x { true } }", 13);
      wrongRule("a if { x with input." + k + " as 1 }", 20);
      wrongRule("default " + k + " := 1", 8);
      rule(k + "x := " + k + "_");
      rule("a := x." + k + "s");
    }
    rules("""
        -- input, data, set are names; so are others that begin as KEYWORDS do
        set := 1
        a := set
        a := set.x[set]
        input := 1
        a := data.input.set.data
        a if { some set; set == 1 }
        iff := 1
        a := [notx, in_, aS, True, NULL]
        """);
  }

  private static void tokens() {
    rules("""
        -- numbers as in JSON, without -
        a := 0
        a := 0.5
        a := 1000000000000
        a := -1000000000000.000000
        a := 0¿0
        a := 0¿1
        a := 1.¿
        a := 1.¿b
        a := 1.¿ 5
        a := 1.5¿.5
        a := 1.5¿.b
        a := ¿.5
        a := 1e5¿
        a := 1.123456¿7
        a := 1000000000000.000000¿0
        a := ¿1000000000000.000001
        a := ¿1000000000000.0000011
        a := ¿1000000000001
        a := ¿99999999999999999999999.
        a := -¿1000000000000.000001
        a := -1.¿
        a := -1.123456¿7
        -- - right ahead of a number; a - that no number stands right behind, where a TERM is asked, is WRONG
        a := -1
        a := -0.5
        a := ¿- 1
        a := ¿--1
        a := ¿-b
        a := ¿-(1)
        a := ¿-"b"
        a := ¿-
        a := ¿-\t1
        a := ¿-.5
        a if 1 - -1
        a if 1--1
        a if 1 -1
        a if 1 - ¿- 1
        a if 1 - ¿-b
        -- strings as in JSON, on one line (byte 10 is WRONG in it)
        a := "b"
        a := ""
        a := "\\"\\\\\\/\\b\\f\\n\\r\\t\\u00ff"
        a := "é# ;"
        a := "b¿¶"
        a := "b¿\t"
        a := "b¿
        a := "b\\¿
        a := "b\\u00¿
        a := "b¿\\¶"
        a := "b¿\\x"
        a := "b¿\\u0100"
        a := "b¿\\u1
        a := "b¿\\u00g0"
        a := "b"¿"c"
        -- RAW strings: `, any bytes but `, `
        a := ``
        a := `\\ " ¶ \t # \\u00`
        a := `b¿
        a := `b`¿`c
        a := `b`¿`c`
        """);
    for (int c = 0; c < 256; c++) {
      if (c != '`') rule("a := `" + (char) c + "`");
      boolean begins = c == '_' || c >= 'a' && c <= 'z' || c >= 'A' && c <= 'Z' || c >= '0' && c <= '9';
      boolean known = c == '#' || c < 33 && (c == 9 || c == 10 || c == 13 || c == 32);
      if (!begins && !known) wrongRule("a := " + (char) c, c == '[' || c == '{' || c == '(' || c == '"' || c == '`' ? 6 : 5);
    }
    rules("""
        -- the signs (the longest that can be read counts)
        a if x:=1
        a if x¿: = 1
        a if x¿::= 1
        a if 1=1
        a if 1==1
        a if 1!=1
        a if 1<=1
        a if 1>=1
        a if 1<1
        a if 1>1
        a if 1==¿=1
        a if 1<¿<1
        a if 1< ¿=1
        a if 1> ¿=1
        a if 1=¿<1
        a if 1<=¿=1
        a if 1=¿:=1
        a if 1!=¿=1
        a if 1 ¿! =1
        -- An ! without = is WRONG
        a if ¿!
        a if ¿!b
        a if 1 ¿!
        a if 1 ¿!!= 1
        -- What begins no token is WRONG there
        ¿@
        a ¿$ := 1
        a := ¿'b'
        a := 1 ¿\\
        a := 1¿~
        a := [1¿? 2]
        a := 1 ¿^ 2
        a := 1¿ÿ
        """);
  }

  private static void blanks() {
    for (int c = 0; c < 256; c++) {
      String s = "a" + (char) c + ":=" + (char) c + "1" + (char) c;
      boolean blank = c == 9 || c == 10 || c == 13 || c == 32;
      boolean goes = c == '_' || c >= 'a' && c <= 'z' || c >= 'A' && c <= 'Z' || c >= '0' && c <= '9';
      if (blank) rule(s);
      else if (c == '#' || c == ':') wrongRule(s, c == '#' ? s.length() : 1);
      else if (!goes) wrongRule(s, c == '(' || c == '[' ? 2 : 1);
    }
    rules("""
        -- Blanks are 9, 10, 13, 32, and from # up to 10 or the end
        a # é ` " := \\¶ := # c¶ 1 # d
        a := 1 #
        a := 1#
        a #¿
        a # := 1¿
        a := 1 # \r b := 2
        a := "#" # "
        a := `#` # `
        # b¶# c¶a := 1
        """);
    rules("""
        -- no blank stands ahead of . [ ( of paths, references, calls
        a := b ¿.c
        a := b¶¿.c
        a := b #¶¿.c
        a := b. c
        a := b.¶c. #¶d
        a := b ¿[1]
        a := b ¿(1)
        a := b.c ¿(1)
        a := b ¿.c(1)
        a := b[1] ¿[2]
        a := b[1] ¿.c
        a := b[ 1 ][¶2]
        a := b( 1 )
        a := b. c(1)
        a := set ¿()
        a := set(¶)
        a := set( # c¶ )
        f ¿(x) := 1
        o ¿[1] := 1
        a if b with input ¿.c as 1
        a if b with input.c ¿.d as 1
        a if b with input. c. d as 1
        a if b with data ¿.c as 1
        """);
    modules("""
        -- .. of packages and imports too
        package a ¿.b
        package a.b ¿.c
        package a. b.#¶c
        package a import data ¿.b
        package a import data.b ¿.c
        package a import data. b.¶c
        package¶a#¶import#¶input.b
        ¿packagea
        """);
  }

  private static void paths() {
    modules("""
        -- A PATH: 1 to 6 names with . between; a seventh name of a PATH is WRONG at its .
        package a
        package a.b.c.d.e.f
        package a.b.c.d.e.f¿.g
        package a.b.c.d.e.f¿.g.h
        package a.¿
        package a.b.¿.c
        package ¿
        package ¿.a
        package ¿"a"
        package ¿1
        package a import data.a.b.c.d.e.f
        package a import data.a.b.c.d.e.f¿.g
        package a import input.a.b.c.d.e.f as g
        package a import data.¿
        package a import data.a.¿1
        package a import data.¿as
        -- _ as a name of a PATH at it
        package ¿_
        package a.¿_
        package a.¿_.b
        package a import data.¿_
        package a import data.b.¿_
        package a import data.b as ¿_
        -- A MODULE: package PATH, IMPORTS, RULES
        ¿
        ¿a := 1
        ¿import data.a
        package a ¿:= 1
        package a import data.b import input.c d := 1
        package a d := 1 ¿import data.b
        package a ¿package b
        -- an IMPORT: import, input or data, ., a PATH, perhaps as and a name
        package a import ¿
        package a import ¿b.c
        package a import ¿"data".c
        package a import data¿
        package a import input¿
        package a import data ¿as b
        package a import data¿(b)
        package a import data.b¿[0]
        package a import data.b as ¿
        package a import data.b as ¿1
        package a import data.b as c¿.d
        package a import data.b as ¿if
        package a import data.b as input
        """);
    rules("""
        -- .. of TARGETS, of CALLS at its (
        a if b with input.c.d.e.f.g.h as 1
        a if b with input.c.d.e.f.g.h¿.i as 1
        a if b with data.c.d.e.f.g.h as 1
        a if b with data.c.d.e.f.g.h¿.i as 1
        a if b with input.¿_ as 1
        a if b with input.c.¿_.d as 1
        a := b.c.d.e.f.g(1)
        a := b.c.d.e.f.g.h¿(1)
        a := b.c.d.e.f.g.h.i.j¿(1)
        a := b.c.d.e.f.g.h.i.j.k.l.m.n.o
        a := _¿(1)
        a := b._¿(1)
        a := b._.c¿(1)
        a := b._
        a := b._._[_]
        """);
    for (int n = 10; n <= 11; n++) {
      String s = "package a " + "import data.b ".repeat(n);
      if (n == 10) module(s + "c := 1", 1);
      else wrongModule(s, 10 + 10 * 14);
    }
    wrongModule("package a " + "import data.b ".repeat(10) + "import 5", 150);
    module("package a", 0);
    module("package a " + "b:=1 ".repeat(100), 100);
    module("package a " + "default b:=1 b if c ".repeat(50), 100);
    wrongModule("package a " + "b:=1 ".repeat(101), 510);
    wrongModule("package a " + "b:=1 ".repeat(100) + "$", 510);
    wrongModule("package a " + "b:=1 ".repeat(100) + "default b := 1 + 1", 510);
    module("package a " + "b:=1 ".repeat(100) + "else := 1", 100);
  }

  private static void heads() {
    rules("""
        -- default NAME := CONSTANT
        default a := null
        default a := -1.5
        default a := "b"
        default a := `b`
        default a := []
        default a := {}
        default a := set()
        default a := ([1, {2, (3)}, {"b": {"c": set( )}, [4]: (true)}])
        default ¿:= 1
        default ¿_ := 1
        default a ¿= 1
        default a ¿1
        default a¿(b) := 1
        default a¿[1] := 1
        default a ¿contains 1
        default a := 1 ¿if b
        default a := 1 ¿else := 2
        default ¿default a := 1
        default a¿
        -- Behind default what is no CONSTANT is WRONG at the first byte that can't go on to be one
        default a := ¿
        default a := ¿b
        default a := ¿input.b
        default a := ¿count(1)
        default a := ¿- 1
        default a := 1 ¿+ 1
        default a := (1 ¿+ 1)
        default a := (1¿, 2)
        default a := (¿)
        default a := [1 ¿== 1]
        default a := [1 ¿| true]
        default a := {1 ¿| true}
        default a := {1: 2 ¿| true}
        default a := {1, ¿b}
        default a := {1, 2¿: 3}
        default a := {1: 2, 3¿}
        default a := {1: ¿b}
        default a := {¿b: 1}
        default a := [¿_]
        default a := [1, ¿]
        default a := {1, ¿}
        default a := set(¿1)
        default a := set¿[1]
        default a := set¿
        default a := set ¿()
        default a := ¿sets()
        default a := [1]¿[0]
        default a := ¿not true
        -- NAME VALUE, or NAME VALUE if BODY, or NAME if BODY, VALUE being := TERM
        a := 1
        a := 1 if b
        a if b
        a := (1 + 2)
        a := b.c[d]
        a := [1 | true] if { b; c }
        a¿
        a ¿= 1
        a ¿1
        a :=¿
        a := ¿if b
        a := 1 ¿+ 2
        a := 1 ¿== 2
        a := 1 ¿{ b }
        a := 1 if¿
        a if ¿if b
        a if 1 + b ¿:= 1
        a if b ¿if c
        ¿_ := 1
        ¿"a" := 1
        ¿1 := 1
        ¿:= 1
        ¿{ b }
        """);
    rules("""
        -- any number (at most 8; a ninth is WRONG) of: else, VALUE or none, if BODY or none (one at least)
        a := 1 else := 2
        a := 1 else if b
        a := 1 else := 2 if b
        a if b else if c else := 3 else if { d }
        a := 1 else ¿
        a := 1 else ¿b
        a := 1 else ¿{ b }
        a := 1 else ¿else := 2
        a := 1 else := 2 if ¿if
        a := 1 elseif ¿b
        a := 1 else ¿= 2
        """);
    String[] firsts = {"a := 1", "a if b", "f(x) := 1 if x"};
    for (String first : firsts) {
      rule(first + " else := 2".repeat(8));
      rule(first + " else if b".repeat(8));
      wrongRule(first + " else := 2".repeat(9), first.length() + 81);
      wrongRule(first + " else if b".repeat(8) + "\nelse", first.length() + 81);
      module("package p\n" + first + " else := 2 if b".repeat(8) + " g := 1 else := 2", 2);
    }
    rules("""
        -- NAME ( TERMS ) and so on as behind the NAME of a complete rule: a FUNCTION, 1 to 4 TERMS
        f(a) := 1
        f(a, 1, [b], {"c": d}) := 1
        f(a) if b
        f(a) := 1 if b else if c else := 2
        f(a.b, 1 ¿+ 2) := 1
        f(a ¿+ 1) := 1
        f(¿) := 1
        f(a, b, c, d¿, e) := 1
        f(a, b, c, d¿,) := 1
        f(a, ¿) := 1
        f(a ¿b) := 1
        f(a¿; b) := 1
        f(a) ¿contains 1
        f(a)¿[1] := 1
        f(a)¿(b) := 1
        f(a)¿
        f(a) ¿= 1
        f(¿some) := 1
        -- NAME contains TERM, or NAME contains TERM if BODY
        a contains 1
        a contains b.c if { d }
        a contains [1, 2] if d
        a contains ¿if d
        a contains ¿
        a contains 1 ¿:= 2
        a contains 1 ¿+ 2
        a contains 1 ¿else := 2
        a contains 1 if b ¿else := 2
        a contains ¿contains 1
        ¿contains 1
        as_ contains 1
        -- NAME [ TERM ] := TERM, perhaps if BODY
        a[1] := 2
        a[b.c] := d.e if { f }
        a[[1]] := 2 if f
        a[1 ¿+ 1] := 2
        a[1] ¿if b
        a[1] ¿= 2
        a[1] ¿contains 2
        a[1]¿[2] := 3
        a[1]¿.b := 2
        a[1]¿
        a[1] := ¿
        a[1] := 2 ¿else := 3
        a[1] := 2 if b ¿else := 3
        a[¿] := 1
        a[1¿, 2] := 3
        """);
  }

  private static void bodies() {
    rules("""
        -- BODY: { LITERALS }, with ; or a byte 10 (in a blank) between each two (} may have ; ahead of it)
        a if { b }
        a if {b;c}
        a if { b¶c }
        a if { b;¶c }
        a if { b¶;c }
        a if { b ; c ; }
        a if { b¶ }
        a if { b # c }¶ d }
        a if {¶#¶b }
        a if { b #¶c }
        a if {¿}
        a if { ¿; b }
        a if { b;¿; c }
        a if { b; ¿; }
        a if { b ¿c }
        a if { b\t¿c }
        a if { b\r¿c }
        a if { b¿, c }
        a if { b; c ¿d }
        a if { b¿
        a if { b;¿
        a if { b ¿)
        -- or one LITERAL (one that begins with { is no such BODY)
        a if b
        a if b == c
        a if not b
        a if some x in b
        a if every x in b { c }
        a if x := 1
        a if [1] == [1]
        a if b ¿; c
        a if {1} ¿== {1}
        a if { 1¿: 2 } == b
        a if ({1} == {1})
        a if (b) == {1}
        """);
    rules("""
        -- A LITERAL, RULE goes on as far as it can, also behind a byte 10
        a if { b¶+ 1¶== 2¶with input as 3 }
        a if { x¶:= 1 }
        a if { b¶[1] }
        a if { b¶(1) }
        a if { b¶¿.c }
        a if { b¶-1 }
        a if { some x¶in b }
        a if { some x¶, y }
        a¶:= 1¶if b¶else¶:= 2
        a if b¶with input as 1
        a if not¶b
        """);
    // A byte 10 ahead of [ ( begins a LITERAL; of - it goes on.
    world("{\"b\":[7,8]}", null);
    asks("""
        x := data.b¶[1] => [[7,8]]
        x := data.b[1]¶(1) => [8]
        x := data.b[1]¶-1 => [7]
        x := data.b[1];-1 => [8]
        x := data.b[1]¶not false => [8]
        """);
    world(null, null);
    queries("""
        -- A QUERY TEXT: LITERALS, one at least, parted as in a BODY; ; may stand at the end, not twice
        b
        b;
        b; # c
        b;¶
        b¶c¶
        ¿
         ¿
        #c¿
        ¿;
        ¿; b
        b;¿;
        b; ¿;
        b ¿c
        b ¿}
        { b }
        { b¿; c }
        ¿package p
        b ¿if c
        b¿, c
        x := 1 ¿else := 2
        """);
  }

  private static void literals() {
    rules("""
        -- some NAMES with , between
        a if { some x; b }
        a if { some x, y, z, w; b }
        a if { some ¿}
        a if { some ¿; b }
        a if { some x, ¿; b }
        a if { some x ¿y }
        a if { some x.y¿; b }
        a if { some x[0], b ¿}
        a if { some 1 ¿}
        a if { some x, y, ¿1 }
        a if { some x, y, z¿.w }
        a if { some x, y, ¿[z] }
        -- behind each but the first (some with names alone) perhaps, .. with
        a if { some x ¿with input as 1 }
        a if { some x, y ¿with input as 1 }
        a if { some x, y, z ¿with input as 1 }
        -- some _ is WRONG at what is behind it, if that is no in, no ,
        a if { some _ in b }
        a if { some _, _ in b }
        a if { some _, x in b }
        a if { some _¿; b }
        a if { some _ ¿}
        a if { some _ ¿with input as 1 }
        a if { some _, x¿; b }
        a if { some _, _ ¿}
        a if { some x, _¿; b }
        a if { some x, _ ¿, y }
        a if { some _, x¿, y; b }
        -- some x, y, _ at the _
        a if { some x, y, ¿_ }
        a if { some x, y, ¿_ in b }
        a if { some x, y, z, ¿_; b }
        -- some TERM in EXPRESSION | some TERM , TERM in EXPRESSION
        a if { some x in b }
        a if { some x, y in b }
        a if { some [x, 1], {"c": y} in b with input as 1 }
        a if { some 1, 2 in b }
        a if { some (x + 1) in b }
        a if { some x in b in c }
        a if { some x in b == c }
        a if { some x ¿+ 1 in b }
        a if { some x in ¿}
        a if { some x in b in c ¿in d }
        a if { some x, y, z ¿in b }
        a if { some ¿in b }
        a if { some x, ¿in b }
        a if { some 1¿; b }
        a if { some x, 1¿; b }
        a if { some [x], y¿; b }
        a if { some x in b ¿= c }
        a if { some x in b ¿:= c }
        a if { some ¿not x in b }
        -- every NAME in EXPRESSION { LITERALS } | every NAME , NAME in EXPRESSION { LITERALS }
        a if { every x in b { c } }
        a if { every x, y in b { c; d } }
        a if { every x in b{ c } }
        a if { every x in {1} { c } with input as 1 }
        a if { every x in b == c { d } }
        a if { every ¿_ in b { c } }
        a if { every x, ¿_ in b { c } }
        a if { every ¿1 in b { c } }
        a if { every ¿[x] in b { c } }
        a if { every x, ¿1 in b { c } }
        a if { every x, y¿, z in b { c } }
        a if { every x¿.y in b { c } }
        a if { every x ¿{ c } }
        a if { every x in { c } ¿}
        a if { every x in b ¿c }
        a if { every x in b {¿} }
        a if { every x in b { ¿; c } }
        a if { every x in b { c; } }
        a if { every x in b { c ¿d } }
        a if { every x in b { c }¿
        -- not EXPRESSION
        a if { not b }
        a if { not b == c }
        a if { not not_b }
        a if { not ¿not b }
        a if { not ¿some x in b }
        a if { not ¿every x in b { c } }
        a if { not b ¿= c }
        a if { not b ¿:= c }
        a if { not ¿}
        a if { not (b) with input as 1 }
        -- EXPRESSION = EXPRESSION | TERM := EXPRESSION
        a if { b = c }
        a if { b + 1 = c == d }
        a if { [x, y] := b }
        a if { b = c ¿= d }
        a if { b = c ¿:= d }
        a if { x := b ¿:= c }
        a if { x := b ¿= c }
        a if { x := b == c }
        a if { x := ¿some }
        a if { x = ¿not b }
        a if { ¿= b }
        a if { ¿:= b }
        a if { b = ¿}
        -- To the left of := stands one TERM (else it is WRONG at the :=)
        a if { x + 1 ¿:= b }
        a if { x == 1 ¿:= b }
        a if { x in y ¿:= b }
        a if { -1 := b }
        a if { ¿- x := b }
        a if { (x + 1) := b }
        a if { f(x) := b }
        a if { x.y[0] := b }
        """);
    rules("""
        -- up to four times, with TARGET as EXPRESSION
        a if b with input as 1
        a if b with input.c as 1 with data.d as 2 with data.e.f as [3] with input as {4}
        a if b with input as 1 with input as 2 with input as 3 with input as 4 ¿with input as 5
        a if b with input as 1 with input as 2 with input as 3 with input as 4 ¿with
        a if not b with input as 1 with input as 2 with input as 3 with input as 4 ¿with input as 5
        a if some x in b with input as 1 with input as 2 with input as 3 with input as 4 ¿with input as 5
        a if every x in b { c } with input as 1 with input as 2 with input as 3 with input as 4 ¿with input as 5
        a if x := b with input as 1 with input as 2 with input as 3 with input as 4 ¿with input as 5
        a if x = b with input as 1 with input as 2 with input as 3 with input as 4 ¿with input as 5
        a if { b with input as 1 with input as 2 with input as 3 with input as 4; c with input as 1 with input as 2 }
        -- TARGET: input or data, perhaps . and a PATH (data needs one)
        a if b with data ¿as 1
        a if b with ¿c as 1
        a if b with ¿as 1
        a if b with¿
        a if b with ¿"input" as 1
        a if b with input¿[0] as 1
        a if b with input.c¿[0] as 1
        a if b with data.c¿(1) as 1
        a if b with input.¿1 as 1
        a if b with input ¿1
        a if b with input as ¿
        a if b with input as ¿with
        a if b with input as 1 + 2 == 3
        a if b with input as x ¿= 1
        a if b with input as x ¿:= 1
        """);
  }

  private static void expressions() {
    values("""
        -- * / % bind most, then + -, then &, then |, then == .. ; those of one strength from the left
        1 + 2 * 3 => 7
        2 * 3 + 1 => 7
        10 - 4 - 3 => 3
        10 - 4 + 3 => 9
        16 / 4 / 2 => 2
        16 / 4 * 2 => 8
        2 * 7 % 4 => 2
        7 % 4 * 2 => 6
        7 - 8 / 4 % 3 => 5
        (2 + 3) * (4 - 1) => 15
        ({1} & {2} - {2}) => set()
        ({1, 2} - {2} & {1}) => {1}
        ({1, 2} & {2} | {3}) => {2,3}
        ({3} | {1, 2} & {2}) => {2,3}
        ({1} | {2} - {2}) => {1}
        ({1} | {2} == {1, 2}) => true
        (1 + 1 == 4 / 2) => true
        ((3 in [1, 2]) == false) => true
        (1 + 2 in {3}) => true
        (1 < 2 + 3 * 4) => true
        [1 + 1, 2 * 3 - 1, {1} & {1}] => [2,5,{1}]
        {1 + 1: 2 * 2} => {2:4}
        [{1} & {1, 2}, {2} & {2, 3}] => [{1},{2}]
        {{1} & {1, 2}} => {{1}}
        {1, {1} & {1, 2}, {2} & {2, 3}} => {1,{1},{2}}
        {{1} & {1, 2}: {2} & {2, 3}} => {{1}:{2}}
        {1: 2, {1} & {1, 2}: {2} & {2, 3}} => {1:2,{1}:{2}}
        [{1} & {y, 2} | y := 1] => [{1}]
        object.get({}, {1} | {2}, 1 == 1) => true
        object.get({{1, 2}: 3}, {1} | {2}, 1 in [2]) => 3
        """);
    String[] signs = {"==", "!=", "<", "<=", ">", ">=", "in"};
    for (String one : signs) {
      for (String two : signs) wrongQuery("b " + one + " c " + two + " d", 5 + one.length());
      queries("b " + one + " c\nb " + one + " (c == d)\n(b < c) " + one + " d\nx := [(b " + one + " c)]\nf(b " + one + " c)\nb[c " + one + " d]\n"
          + "x := b " + one + " c\nb = c " + one + " d\nb " + one + " c = d\nx := b + 1 " + one + " c * 2\n"
          // An ITEM has none of these outside of brackets.
          + "[b ¿" + one + " c]\n[1, b ¿" + one + " c]\n{b ¿" + one + " c}\n{b: c ¿" + one + " d}\n{b ¿" + one + " c: d}\n[b ¿" + one + " c | true]\n");
    }
    rules("""
        -- ITEMS: without | outside of brackets, which begins a COMPREHENSION
        a := [b | c]
        a := [b | c | d]
        a := [(b | c)]
        a := [b, c ¿| d]
        a := {b | c}
        a := {b, c ¿| d}
        a := {b: c | d}
        a := {b: c, d: e ¿| f}
        a := {b | c¿: d}
        a := [b & c + 1]
        a := f(b | c)
        a := b[c | d]
        a := (b | c)
        """);
    rules("""
        -- TERMS with SIGNS between
        a if b +¿
        a if b + ¿+ c
        a if b * ¿/ c
        a if ¿+ b
        a if ¿* b
        a if ¿& b
        a if ¿| b
        a if ¿== b
        a if ¿in b
        a if b ¿not c
        a if b & c | d & e
        a if b - c == d % e
        """);
  }

  private static void terms() {
    rules("""
        -- null true false; a number; a string; a REFERENCE: a NAME, then any number of STEPS
        a := [null, true, false, 1, "b", `c`, d, e.f, g["h"][1][i].j, k[_], l[m == n], _]
        a := b.¿
        a := b.¿1
        a := b.¿"c"
        a := b.¿[c]
        a := b.¿.c
        a := b[¿]
        a := b[c¿
        a := b[c¿, d]
        a := b[c ¿d]
        a := b[c¿:d]
        a := b[c ¿= d]
        -- A . NAME is no KEYWORD (it is WRONG)
        a := b.¿if
        a := b.¿in
        a := b.¿null
        a := b.input.data.set
        -- a CALL: a PATH ( EXPRESSIONS with , between, or none )
        a := f()
        a := f(1, [2], g(3, h()))
        a := f.g.h(1 == 2)
        a := f(b == c, d != e, g | h, i in j)
        a := f(¿, 1)
        a := f(1, ¿)
        a := f(1 ¿2)
        a := f(1¿; 2)
        a := f(1¿
        a := f(¿
        a := f(¿not b)
        a := f(x ¿:= 1)
        a := ¿if(1)
        a := ¿contains(1)
        -- Behind a CALL there are no STEPS; a ( behind a STEP [ ] is WRONG
        a := f(1)¿.b
        a := f(1)¿[0]
        a := f(1)¿(2)
        a := f[0]¿(1)
        a := f.g["h"]¿(1)
        a := f[0].g¿(1)
        a := (f(1))¿.b
        a := (b)¿[0]
        a := [1]¿[0]
        a := {1}¿.b
        a := "b"¿.c
        a := "b"¿[0]
        a := set()¿[0]
        -- ( EXPRESSION )
        a := (1)
        a := ((b == c))
        a := (¿)
        a := (b¿, c)
        a := (b¿
        a := (b ¿c)
        a := (b ¿= c)
        a := (b ¿:= c)
        a := (¿not b)
        a := (b¿]
        -- [ ITEMS ], with , between; [ ] may be empty
        a := []
        a := [ ¶ ]
        a := [1, 2, [3]]
        a := [1, ¿]
        a := [¿, 1]
        a := [1¿
        a := [1 ¿2]
        a := [1¿; 2]
        a := [1¿: 2]
        a := [1¿}
        -- { ITEMS }, one at least: a set; { ITEM : ITEM, ..}, or {}: an object
        a := {}
        a := { # c¶ }
        a := {1}
        a := {1, 2, {3}}
        a := {1: 2}
        a := {1: 2, "b": {}, c: d + 1}
        a := {1, ¿}
        a := {1: 2, ¿}
        a := {1: ¿}
        a := {¿: 1}
        a := {¿, 1}
        a := {1, 2¿: 3}
        a := {1: 2, 3¿}
        a := {1: 2, 3¿, 4: 5}
        a := {1: 2¿: 3}
        a := {1¿
        a := {1:2¿
        a := {1¿]
        -- set(), the empty set; set( ) with blanks within; set( with something in it is a CALL
        a := set()
        a := set( )
        a := set(1)
        a := set([1, 2])
        a := set(¿
        a := b.set()
        a := set.b()
        -- COMPREHENSIONS (LITERALS parted as in a BODY)
        a := [b | c; d]
        a := [b | c¶d]
        a := [b | c; ]
        a := {b | c; d;}
        a := {b: c | not d; some e in f; every g in h { i }; j := k; l = m}
        a := [b | ¿]
        a := [b | ¿; c]
        a := [b | c;¿; d]
        a := [b | c ¿d]
        a := [b | c¿, d]
        a := {b | ¿}
        a := {b: c | ¿}
        a := [b | c¿
        a := [b | c¿}
        a := {b | c¿]
        a := [¿| c]
        a := {¿| c}
        """);
    values("""
        -- set( ) is the empty set, {} the empty object
        set( ) => set()
        {} => {}
        [set(), {}, []] => [set(),{},[]]
        -- . NAME is the string of these signs
        {"b_1": {"input": 2}, "c": 3} => {"b_1":{"input":2},"c":3}
        """);
    world("{\"_\":{\"_\":1},\"b_1\":{\"data\":2}}", null);
    asks("""
        -- . _ is a STEP by the string _
        x := data._ => [{"_":1}]
        x := data._._ => [1]
        x := data.b_1.data => [2]
        x := data["b_1"]["data"] => [2]
        x := data[`b_1`].data => [2]
        """);
    world(null, null);
  }

  /** "At most 6 brackets ( [ { are within one another in a RULE or a QUERY (a seventh is WRONG)." */
  private static void brackets() {
    String[] opens = {"(", "[", "{", "f(", "b[", "{1:", "[1|", "{1|", "[(b)==", "{f()|"};
    String[] shuts = {")", "]", "}", ")", "]", "}", "]", "}", "]", "}"};
    for (int i = 0; i < 8; i++) {
      String six = opens[i].repeat(6) + "1" + shuts[i].repeat(6);
      rule("a := " + six);
      rule("a := [" + opens[i].repeat(5) + "1" + shuts[i].repeat(5) + ", " + opens[i].repeat(5) + "1" + shuts[i].repeat(5) + "]");
      queries("x := " + six);
      int bracket = opens[i].indexOf('[') >= 0 ? opens[i].indexOf('[') : Math.max(opens[i].indexOf('{'), opens[i].indexOf('('));
      wrongRule("a := " + opens[i].repeat(7), 5 + 6 * opens[i].length() + bracket);
      wrongQuery("x := " + opens[i].repeat(7) + "1" + shuts[i].repeat(7), 5 + 6 * opens[i].length() + bracket);
      if (i != 5) wrongRule("a if " + opens[i].repeat(7), 5 + 6 * opens[i].length() + bracket);
      wrongRule("a if { x := " + opens[i].repeat(6), 12 + 5 * opens[i].length() + bracket);
      rule("a if { x := " + opens[i].repeat(5) + "1" + shuts[i].repeat(5) + " }");
      wrongRule("a contains " + opens[i].repeat(7), 11 + 6 * opens[i].length() + bracket);
      rule("a contains " + six);
      rule("a := 1 else := " + six + " if b");
      wrongRule("a := 1 else := " + opens[i].repeat(7), 15 + 6 * opens[i].length() + bracket);
      rule("f(" + (i < 3 ? opens[i].repeat(5) + "1" + shuts[i].repeat(5) : "x") + ") := 1");
    }
    rules("""
        -- All brackets of a RULE count for the six, also those of heads, STEPS, BODIES
        f([[[[[x]]]]]) := 1
        f([[[[[¿[x]]]]]]) := 1
        o[[[[[[1]]]]]] := 1
        o[[[[[[¿[1]]]]]]] := 1
        o[1] := [[[[[[1]]]]]]
        o[1] := [[[[[[¿[1]]]]]]]
        a if { b[[[[[1]]]]] }
        a if { b[[[[[¿[1]]]]]] }
        a if { every x in b { c[[[[1]]]] } }
        a if { every x in b { c[[[[¿[1]]]]] } }
        a if every x in [[[[[[1]]]]]] { c }
        a if every x in [[[[[[¿[1]]]]]]] { c }
        a if { b with input as [[[[[1]]]]] }
        a if { b with input as [[[[[¿[1]]]]]] }
        a if { some x in [[[[[1]]]]] }
        a if { some x in [[[[[¿[1]]]]]] }
        a if { set() == [[[[set()]]]] }
        a if { set() == [[[[[set¿()]]]]] }
        default a := [[[[[[1]]]]]]
        default a := [[[[[[¿[1]]]]]]]
        default a := ((((((1))))))
        default a := ((((((¿(1)))))))
        default a := {{{{{{1}}}}}}
        default a := {{{{{{¿{1}}}}}}}
        default a := [[[[[set()]]]]]
        default a := [[[[[[set¿()]]]]]]
        -- of a RULE: the next one has six of its own
        a := [[[[[[1]]]]]] b := [[[[[[1]]]]]]
        a := [[[[[[1]]]]]] b := [[[[[[¿[1]]]]]]]
        -- within one another: behind what is closed six may be opened again
        a := [[[[[[1]]]]], [[[[[2]]]]]] if { [[[[[1]]]]]; [[[[[2]]]]] } else := [[[[[[3]]]]]]
        """);
  }

  /** A text that is WRONG leaves nothing behind for the next one; texts of 6000 bytes have room. */
  private static void behind() {
    for (String s : new String[] {"x := [[[[[[", "x := [[[[[[[", "f(f(f(", "x := {{{"}) {
      wrongQuery(s, s.length() - (s.endsWith("[[[[[[[") ? 1 : 0));
      query("x := [[[[[[1]]]]]]");
      wrongRule("a := " + s.substring(s.indexOf(s.endsWith("(") ? "f" : s.endsWith("{") ? "{" : "[")), s.endsWith("[[[[[[[") ? 11 : s.endsWith("[") ? 11 : s.endsWith("(") ? 11 : 8);
      rule("a := [[[[[[1]]]]]]");
    }
    d = new Desk();
    same("a module of literals", d.mods("package p\na if {" + "1;".repeat(2989) + "false}"), "1");
    same("each of them", d.ask("data.p.a") + d.h().covered(0), "2990");
    d = new Desk();
    same("a module of terms", d.mods("package p\na := [" + "1,".repeat(2989) + "\"b\"]"), "1");
    same("each of them", d.ask("count(data.p.a) == 2990; x := data.p.a[2989]"), "[\"b\"]");
    d = new Desk();
    same("a module of SIGNS", d.mods("package p\na := (" + "1+".repeat(2990) + "1)"), "1");
    same("each of them", d.ask("x := data.p.a"), "[2991]");
    d = new Desk();
    same("a QUERY of COMPREHENSIONS", d.number("[" + "[1|1],".repeat(999) + "1]"), "1");
  }

  public static void main(String[] args) {
    names();
    keywords();
    tokens();
    blanks();
    paths();
    heads();
    bodies();
    literals();
    expressions();
    terms();
    brackets();
    behind();
    Desk.end("modules");
  }
}
