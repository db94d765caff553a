import java.lang.management.ManagementFactory;

// Promises 15 to 20: what takes much room without much FUEL, and values that with makes TOO GREAT.
public final class PolicyHouseRoom {
  private static Desk d = new Desk();

  /** A query without variables that has a WAY, and the FUEL that it takes. */
  private static void holds(String q, int fuel) {
    Desk.same(q, d.ask(q), "[]");
    Desk.same("fuel of " + q, d.h().about(2), fuel);
  }

  /** A default takes no FUEL, in no SCOPE. */
  private static void defaults() {
    d = new Desk();
    d.mods("package p\ndefault a := [" + "1,".repeat(2900) + "1]\ndefault b := {1: 2, 1: 3}\ndefault c := \"" + "x".repeat(10) + "\"\n");
    String each = "every i in numbers.range(1, 300) ";
    holds(each + "{ data.p.a with input as i }", 1 + 2 + 301 + 300 * 102 + 1);
    holds(each + "{ not data.p.b with input as i }", 1 + 2 + 301 + 300 * 102 + 1);
    holds("data.p.c; not data.p.b; data.p.a[2900]; not data.p.a[2901]", 4 + 1);
    Desk.same("document", d.out(d.h().document(2)), "\"xxxxxxxxxx\"");
    d = new Desk();
    d.mods("package p\ndefault a := [\"" + "x".repeat(4000) + "\"]\n");
    Desk.same("noted in each RUN", d.ask("not data.p.a"), "-102");
    Desk.same("noted in each RUN", d.ask("not data.p.a"), "-102");
  }

  /** A rule with many BRANCHES whose STEPS by _ find nothing takes no FUEL. */
  private static void empties() {
    d = new Desk();
    StringBuilder p = new StringBuilder("package p\nimport data.k\n");
    for (int i = 0; i < 90; i++) p.append("r").append(i).append(":=k[_]").append("else:=k[_]".repeat(3)).append('\n');
    Desk.same("rules", d.mods(p.toString(), "package k"), "90");
    holds("every i in numbers.range(1, 380) { not data.p[i] with input as i }", 1 + 2 + 381 + 380 * 102 + 1);
  }

  /** DATA in which a row of numbers, of 20 bytes each, and so many copies of it are. */
  private static void fill(int copies) {
    Desk.same("data", d.data("{\"d\":{\"n\":[" + "-123456789012.123456,".repeat(199) + "1]}}"), 207);
    for (int i = 0; i < copies; i++) d.patch("[{\"op\":\"copy\",\"from\":\"/d/n\",\"path\":\"/d/" + (char) ('A' + i) + "\"}]");
    Desk.same("weight", d.h().count(3), 207 + copies * 203);
  }

  private static String four(String as) {
    String s = "";
    for (char c : as.toCharArray()) s += " with data.d." + c + "x as data.d";
    return s;
  }

  /** THE TREE may have more than what is made may have; a DOCUMENT may then be long. */
  private static void greats() {
    d = new Desk();
    d.mods("package p\na := 1 if true" + four("abcd") + "\nb := x if { x := data.d" + four("abcd") + " }\n"
        + "c := [x] if { x := data.d" + four("a") + " }\ne := count(x) if { x := data.d" + four("ab") + " }\n");
    fill(16);
    int made = 4 * 4000 + 100;
    holds("data.p.a", 1 + 1 + made + 1);
    holds("data.p.a" + four("efgh"), 1 + made + 1 + made + 1);
    Desk.same("in COMPREHENSIONS", d.ask("y := [1 | true" + four("abcd") + "]" + four("efgh")), "[[1]]");
    Desk.same("of an array", d.ask("data.p.c"), "-102");
    Desk.same("operand", d.ask("data.p.e"), "[]");
    int d0 = 207 - 3 + 16 * 203;
    Desk.same("its fuel", d.h().about(2), 1 + 1 + 100 + 2 * 4000 + d0 * 3 + 2 * 3 + 1 + 1);
    holds("data.p.b", 1 + 1 + made + 1);
    int one = d.h().document(1);
    int row = 199 * 21 + 3;
    int own = 17 * (row + 4) + 16 + 2;
    Desk.same("document", one, 5 * own + 4 * 6);
    Desk.same("OUTPUT", d.h().count(6), one);
    byte[] begin = "{\"A\":[-123456789012.123456,".getBytes();
    for (int i = 0; i < begin.length; i++) Desk.same("byte " + i, d.h().output(i), begin[i]);
    Desk.same("last bytes", d.h().output(one - 4) + " " + d.h().output(one - 1) + " " + d.h().output(one), "44 125 -1");
    Desk.same("a short one again", d.out(d.h().document(0)), "none");
  }

  private static long allocated() {
    return ((com.sun.management.ThreadMXBean) ManagementFactory.getThreadMXBean()).getThreadAllocatedBytes(Thread.currentThread().getId());
  }

  private static void greatDocument(int rule, int due) {
    Desk.same("DOCUMENT of " + rule, d.h().document(rule), due);
    Desk.same("its last bytes", "" + (char) d.h().output(due - 2) + (char) d.h().output(due - 1) + d.h().output(due), "]}-1");
  }

  /** The greatest that nine TARGETS make of DATA: withs within withs, each of which doubles what there is; OUTPUT grows but once. */
  private static void greatest() {
    d = new Desk();
    d.mods("package p\na2 := v if { v := data.d with data.d.b as data.d }\na1 := v if { v := a2 with data.d.a as data.d }\n"
        + "b3 := v if { v := data.d with data.d.c as data.d }\nb2 := v if { v := b3 with data.d.b as data.d }\nb1 := v if { v := b2 with data.d.a as a1 }\n"
        + "c3 := v if { v := data.d with data.d.c as data.d }\nc2 := v if { v := c3 with data.d.b as data.d }\n"
        + "c1 := v if { v := c2 with data.d.a as b1 with data.d.e as b1 }\n");
    fill(18);
    holds("data.p.c1", 1 + 9 * 4000 + 8 * 100 + 8 + 1);
    int row = 199 * 21 + 3;
    int own = 19 * (row + 4) + 18 + 2;
    int a = 2 * (2 * own + 5) + 5;
    int b = 2 * (2 * (own + 5 + a) + 5) + 5;
    int c = 2 * (2 * (own + 2 * (5 + b)) + 5) + 5;
    long before = allocated();
    greatDocument(1, a);
    greatDocument(4, b);
    greatDocument(7, c);
    greatDocument(4, b);
    long taken = allocated() - before;
    Desk.same("OUTPUT of " + c + " takes less than 16 million bytes", taken < 16000000, true);
  }

  /** A row of rules each of which puts the DOCUMENT of the last one five names deeper into DATA: up to 65 DEEP, by all FUEL. */
  private static void deep() {
    String step = "data.d.b.c.d.e.f";
    String names = "{\"b\":{\"c\":{\"d\":{\"e\":{\"f\":".repeat(9);
    String rows = "[".repeat(19) + "7" + "]".repeat(19);
    String path = "/b/c/d/e/f".repeat(9);
    int base = 14 + 15 + 16 + 17 + 18 + 19 + 20;
    for (int n = 7; n <= 10; n++) {
      d = new Desk();
      StringBuilder m = new StringBuilder("package p\ne := [[[[[[input]]]]]]\ng := [e]\n");
      for (int i = 0; i < n; i++) {
        m.append("r").append(i).append(" := x if { x := data.d with ").append(step).append(" as ").append(i == 0 ? "g" : "r" + (i - 1)).append(" }\n");
      }
      Desk.same("rules", d.mods(m.toString()), "" + (n + 2));
      d.input("[".repeat(12) + "7" + "]".repeat(12));
      String last = "data.p.r" + (n - 1);
      Desk.same("a row of " + n, d.ask(last), n < 10 ? "[]" : "-104");
      if (n == 10) continue;
      Desk.same("its FUEL", d.h().about(2), base + n * 4101 + 2);
      int bytes = names.length() / 9 * n + rows.length() + 5 * n;
      Desk.same("DOCUMENT", d.h().document(n + 1), bytes);
      String all = names.substring(0, names.length() / 9 * n) + rows;
      for (int i = 0; i < all.length(); i += 7) Desk.same("byte " + i, d.h().output(i), (int) all.charAt(i));
      String great = n < 9 ? "-102" : "-104";
      Desk.same("a result of it", d.ask("x := " + last), great);
      Desk.same("in an array", d.ask("[" + last + "]"), great);
      String from = path.substring(0, 10 * n) + "/0".repeat(19);
      Desk.same("out of it", d.ask("x := json.patch(" + last + ", [{\"op\": \"copy\", \"from\": \"" + from + "\", \"path\": \"\"}])"), "[7]");
      Desk.same("not out of it", d.ask("x := json.patch(" + last + ", [{\"op\": \"copy\", \"from\": \"" + from + "/0\", \"path\": \"\"}])", true), "-103");
      Desk.same("walk", d.ask("walk(" + last + ")"), great);
    }
  }

  /** The same by a FUNCTION that is called for what it gave: nine times, with what is 17 DEEP. */
  private static void deepCalls() {
    d = new Desk();
    Desk.same("rules", d.mods("package p\nf(v) := x if { x := data.d with data.d.b.c.d.e.f as v }\ng(v) := f(f(f(v)))\nh(v) := g(g(g(v)))\n"), "3");
    d.input("[".repeat(12) + "7" + "]".repeat(12));
    int objects = 45;
    int arrays = 12 + 4;
    int json = objects * 6 + 2 * arrays + 1;
    Desk.same("json.marshal", d.begin("w := json.marshal(data.p.h([[[[input]]]]))", 8), (json + 2 * objects + 4) + " [\"{\\\"b\\\"");
    int last = objects * 3 + 13 + 4;
    Desk.same("its FUEL", d.h().about(2), 1 + 14 + 15 + 16 + 17 + 1 + 3 + 9 * 102 + 9 * 4000 + last + json + 1 + json + 2);
    Desk.same("one more", d.ask("w := json.marshal(data.p.f(data.p.h([[[input]]])))"), "-104");
  }

  /** STEPS by _ go through the keys of THE TREE, whose WEIGHTS may be more than 4000: nobody makes a set of them. */
  private static void keys() {
    d = new Desk();
    d.mods("package p\naaaaaaaaaaaaaaaa := 1 b := 2");
    Desk.same("data", d.data("{\"p\":{\"" + "x".repeat(3985) + "\":3}}"), 1 + 2 + 1 + 3986 + 1);
    Desk.same("keys", d.ask("count([1 | some k; data.p[k]]) == 3"), "[]");
    Desk.same("values", d.ask("x := [y | y := data.p[_]]"), "[[1,2,3]]");
    Desk.same("an object of them", d.ask("data.p"), "-102");
  }

  /** A DOCUMENT whose PRINT is a little less and a little more than 100000 bytes: none is cut. */
  private static void prints() {
    for (int more = 0; more <= 10; more++) {
      if (more == 5) continue;
      d = new Desk();
      String last = "d" + "x".repeat(1 + more);
      d.mods("package p\nb := x if { x := data.d" + four("abc") + " with data.d." + last + " as data.d }\n");
      String row = "[" + "-123456789012.123456,".repeat(188) + "-123456789012.123456]";
      Desk.same("data", d.data("{\"d\":{\"n\":" + row + ",\"s\":\"" + "y".repeat(112) + "\"}}"), 1 + 2 + 1 + 2 + 190 + 2 + 113);
      for (int i = 0; i < 4; i++) d.patch("[{\"op\":\"copy\",\"from\":\"/d/n\",\"path\":\"/d/" + (char) ('A' + i) + "\"}]");
      Desk.same("a RUN", d.ask("data.p.b"), "[]");
      int own = 2 + 5 * (4 + row.length()) + 6 + 112 + 5;
      int due = 5 * own + 4 * 6 + more;
      Desk.same("the test's own length", due, 99999 + more);
      Desk.same("DOCUMENT", d.h().document(0), due);
      Desk.same("OUTPUT", d.h().count(6), due);
      Desk.same("its last bytes", "" + (char) d.h().output(due - 3) + (char) d.h().output(due - 2) + (char) d.h().output(due - 1) + d.h().output(due), "y\"}-1");
    }
  }

  /** "At most 100 RULES", four modules: 400 RULES OF THE BUNDLE, each of which reads the one 133 behind it. */
  private static void rules() {
    String[] texts = new String[4];
    for (int m = 0; m < 4; m++) {
      StringBuilder s = new StringBuilder("package " + "abcd".charAt(m) + "\n");
      for (int k = 0; k < 100; k++) {
        int next = 100 * m + k + 133;
        String value = next < 400 ? "[data." + "abcd".charAt(next / 100) + ".r" + next % 100 + "]" : "" + (100 * m + k);
        s.append(k == 99 && m == 3 ? "default " : "").append("r").append(k).append(":=").append(value).append(k == 98 && m == 3 ? " if {1;2}" : "").append("\n");
      }
      texts[m] = s.toString();
    }
    d = new Desk();
    Desk.same("rules", d.mods(texts), "400");
    int[][] depends = {{0, 3}, {1, 2}, {15, 2}, {16, 2}, {31, 2}, {32, 2}, {133, 2}, {134, 1}, {266, 1}, {267, 0}, {399, 0}};
    for (int[] r : depends) Desk.same("on how many " + r[0] + " DEPENDS", d.h().rule(r[0], 4), r[1]);
    Desk.same("MODULE and PLACE", d.h().rule(399, 1) + " " + d.h().rule(399, 2), "3 " + texts[3].indexOf("default"));
    Desk.same("x := data.a.r0", d.ask("x := data.a.r0"), "[[[[399]]]]");
    Desk.same("DOCUMENTS", d.out(d.h().document(0)) + d.out(d.h().document(266)) + d.out(d.h().document(399)) + d.h().document(1) + d.h().document(400), "[[[399]]][399]399-1-1");
    Desk.same("covered", d.h().covered(399) + " " + d.h().covered(398) + " " + d.h().covered(400), "0 0 -1");
    Desk.same("x := data.c.r65", d.ask("x := [data.a.r31, data.a.r32, data.c.r65, data.d.r98]"), "[[[[297]],[[298]],[398],398]]");
    Desk.same("covered", d.h().covered(399) + " " + d.h().covered(398), "0 2");
    Desk.same("with", d.ask("x := [data.a.r0, data.a.r1] with data.d.r99 as 7 with data.b.r34 as 8"), "[[[[[7]]],[8]]]");
    Desk.same("all of them", d.ask("x := [count(data.a), count(data.d), count(data)]"), "[[100,100,4]]");
    d = new Desk();
    StringBuilder s = new StringBuilder("package w\n");
    for (int i = 0; i < 40; i++) s.append("n").append(i).append(" := 1 ");
    Desk.same("rules", d.mods(s + "a if { 1 with input as 1 } b if { a with input as 1 } c if { b with input as 1 } e if { data.w.c }"), "44");
    Desk.same("three withs", d.ask("data.w.c"), "[]");
    Desk.same("four withs", d.ask("data.w.c with input as 1"), "7@0");
    Desk.same("four withs", d.ask("true; data.w.e with input as 1"), "7@6");
    Desk.same("three withs", d.ask("data.w.b with input as 1"), "[]");
  }

  /** A heavy DRAFT that is looked at again and again. */
  private static void again() {
    d = new Desk();
    d.module("package p\na if {" + "b;".repeat(2500) + "false} else := 5\nb := 1\n");
    for (int i = 0; i < 3; i++) {
      Desk.same("check", d.h().check(), 0);
      d.module("package q" + i + "\nc := " + i);
    }
    Desk.same("rules", d.h().activate(), 5);
    Desk.same("as it says", d.ask("x := [data.p.a, data.q0.c, data.q2.c]"), "[[5,0,2]]");
    Desk.same("TRIES", d.h().covered(0), 2501);
  }

  public static void main(String[] args) {
    defaults();
    empties();
    greats();
    greatest();
    deep();
    deepCalls();
    keys();
    prints();
    rules();
    again();
    Desk.end("room");
  }
}
