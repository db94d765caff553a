// Promises 15 to 20: what takes much room without much FUEL, and values that with makes TOO GREAT.
public final class PolicyHouseRoom {
  private static Desk d = new Desk();

  /** A query without variables that has a WAY, and the FUEL that it takes. */
  private static void holds(String q, int fuel) {
    Desk.same(q, d.ask(q), "[]");
    Desk.same("fuel of " + q, d.h().about(2), fuel);
  }

  /** A default takes no FUEL, in no SCOPE. */
  private static void defaults() {
    d = new Desk();
    d.mods("package p\ndefault a := [" + "1,".repeat(2900) + "1]\ndefault b := {1: 2, 1: 3}\ndefault c := \"" + "x".repeat(10) + "\"\n");
    String each = "every i in numbers.range(1, 300) ";
    holds(each + "{ data.p.a with input as i }", 1 + 2 + 301 + 300 * 102 + 1);
    holds(each + "{ not data.p.b with input as i }", 1 + 2 + 301 + 300 * 102 + 1);
    holds("data.p.c; not data.p.b; data.p.a[2900]; not data.p.a[2901]", 4 + 1);
    Desk.same("document", d.out(d.h().document(2)), "\"xxxxxxxxxx\"");
    d = new Desk();
    d.mods("package p\ndefault a := [\"" + "x".repeat(4000) + "\"]\n");
    Desk.same("noted in each RUN", d.ask("not data.p.a"), "-102");
    Desk.same("noted in each RUN", d.ask("not data.p.a"), "-102");
  }

  /** A rule with many BRANCHES whose STEPS by _ find nothing takes no FUEL. */
  private static void empties() {
    d = new Desk();
    StringBuilder p = new StringBuilder("package p\nimport data.k\n");
    for (int i = 0; i < 90; i++) p.append("r").append(i).append(":=k[_]").append("else:=k[_]".repeat(3)).append('\n');
    Desk.same("rules", d.mods(p.toString(), "package k"), "90");
    holds("every i in numbers.range(1, 380) { not data.p[i] with input as i }", 1 + 2 + 381 + 380 * 102 + 1);
  }

  /** DATA of 3455, in which 17 rows of numbers are, of 20 bytes each. */
  private static void fill() {
    Desk.same("data", d.data("{\"d\":{\"n\":[" + "-123456789012.123456,".repeat(199) + "1]}}"), 207);
    for (int i = 0; i < 16; i++) d.patch("[{\"op\":\"copy\",\"from\":\"/d/n\",\"path\":\"/d/" + (char) ('A' + i) + "\"}]");
    Desk.same("weight", d.h().count(3), 207 + 16 * 203);
  }

  private static String four(String as) {
    String s = "";
    for (char c : as.toCharArray()) s += " with data.d." + c + "x as data.d";
    return s;
  }

  /** THE TREE may have more than what is made may have; a DOCUMENT may then be long. */
  private static void greats() {
    d = new Desk();
    d.mods("package p\na := 1 if true" + four("abcd") + "\nb := x if { x := data.d" + four("abcd") + " }\n"
        + "c := [x] if { x := data.d" + four("a") + " }\ne := count(x) if { x := data.d" + four("ab") + " }\n");
    fill();
    int made = 4 * 4000 + 100;
    holds("data.p.a", 1 + 1 + made + 1);
    holds("data.p.a" + four("efgh"), 1 + made + 1 + made + 1);
    Desk.same("in COMPREHENSIONS", d.ask("y := [1 | true" + four("abcd") + "]" + four("efgh")), "[[1]]");
    Desk.same("of an array", d.ask("data.p.c"), "-102");
    Desk.same("operand", d.ask("data.p.e"), "[]");
    int d0 = 207 - 3 + 16 * 203;
    Desk.same("its fuel", d.h().about(2), 1 + 1 + 100 + 2 * 4000 + d0 * 3 + 2 * 3 + 1 + 1);
    holds("data.p.b", 1 + 1 + made + 1);
    int one = d.h().document(1);
    int row = 199 * 21 + 3;
    int own = 17 * (row + 4) + 16 + 2;
    Desk.same("document", one, 5 * own + 4 * 6);
    Desk.same("OUTPUT", d.h().count(6), one);
    byte[] begin = "{\"A\":[-123456789012.123456,".getBytes();
    for (int i = 0; i < begin.length; i++) Desk.same("byte " + i, d.h().output(i), begin[i]);
    Desk.same("last bytes", d.h().output(one - 4) + " " + d.h().output(one - 1) + " " + d.h().output(one), "44 125 -1");
    Desk.same("a short one again", d.out(d.h().document(0)), "none");
  }

  public static void main(String[] args) {
    defaults();
    empties();
    greats();
    Desk.end("room");
  }
}
