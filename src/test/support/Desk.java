/** Feeds texts to one house and counts its calls: no test may use an object for more than 512. */
final class Desk {
  static final int CALLS = 512;
  static int wrong = 0;
  private final PolicyHouse house = new PolicyHouse();
  private int calls = 0;

  static void same(String what, Object got, Object due) {
    if (String.valueOf(got).equals(String.valueOf(due))) return;
    wrong++;
    System.out.println(what + " answered " + brief(got) + ", due is " + brief(due));
  }

  private static String brief(Object value) {
    String s = String.valueOf(value);
    return s.length() > 300 ? s.substring(0, 300) + " .. (" + s.length() + ")" : s;
  }

  /** Ends a test: tells that all is as due, or fails. */
  static void end(String name) {
    if (wrong > 0) System.exit(1);
    System.out.println(name + ": all answers are as due");
  }

  static byte[] bytes(String s) {
    return s.getBytes(java.nio.charset.StandardCharsets.ISO_8859_1);
  }

  /** The house, for one call more. */
  PolicyHouse h() {
    calls++;
    if (calls == CALLS + 1) same("calls of one object", "more", "at most 512");
    return house;
  }

  boolean hasLeft(int n) {
    return calls + n <= CALLS;
  }

  void tape(String s) {
    byte[] b = bytes(s);
    for (int i = 0; i < b.length; i += 20) {
      int[] v = new int[5];
      for (int k = 0; k < 20; k++) {
        v[k / 4] = v[k / 4] << 8 | (i + k < b.length ? b[i + k] & 255 : 0);
      }
      h().feed(v[0], v[1], v[2], v[3], v[4]);
    }
    h().end(b.length);
  }

  int module(String s) {
    tape(s);
    return h().module();
  }

  int data(String s) {
    tape(s);
    return h().data();
  }

  int patch(String s) {
    tape(s);
    return h().patch();
  }

  int input(String s) {
    tape(s);
    return h().input();
  }

  int prepare(String s) {
    tape(s);
    return h().prepare();
  }

  /** The first n bytes of OUTPUT. */
  String out(int n) {
    if (n < 0) return "none";
    StringBuilder b = new StringBuilder();
    for (int i = 0; i < n; i++) b.append((char) h().output(i));
    return b.toString();
  }

  String faults() {
    return h().fault(0) + ":" + h().fault(1) + "@" + h().fault(2);
  }

  /** How many rules the bundle of these modules has, or its fault as kind:module@place. */
  String mods(String... texts) {
    h().drop();
    for (String s : texts) {
      int n = module(s);
      if (n < 0) return "wrong " + (-1 - n);
    }
    int n = h().activate();
    return n < 0 ? faults() : "" + n;
  }

  /** What a query answers up to its run: kind@place of its fault, or what prepare or run answers. */
  private String tried(String q, boolean strict) {
    int p = prepare(q);
    if (p <= -7000 && p > PolicyHouse.FULL) return h().fault(0) + "@" + h().fault(2);
    if (p < 0) return p == PolicyHouse.FULL ? "full" : "wrong " + (-1 - p);
    int n = h().run(p, strict);
    h().release(p);
    return "" + n;
  }

  /** The results of a query in their order, or kind@place of its fault, or what run answers. */
  String ask(String q, boolean strict) {
    String got = tried(q, strict);
    if (!got.matches("[0-9]+")) return got;
    StringBuilder b = new StringBuilder();
    for (int i = 0; i < Integer.parseInt(got); i++) {
      if (i > 0) b.append(' ');
      b.append(out(h().result(i, 0)));
    }
    return b.toString();
  }

  String ask(String q) {
    return ask(q, false);
  }

  /** How many bytes the first result of a query has, and the first n of them. */
  String begin(String q, int n) {
    String got = tried(q, false);
    return got.equals("1") ? h().result(0, 0) + " " + out(n) : got;
  }

  /** How many results a query has, or as ask. */
  String number(String q) {
    return tried(q, false);
  }
}
