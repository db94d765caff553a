/** Feeds texts to a house, with a fresh one ahead of the calls that one may take. */
final class Desk {
  PolicyHouse h = new PolicyHouse();
  static int wrong = 0;

  static void same(String what, Object got, Object due) {
    if (String.valueOf(got).equals(String.valueOf(due))) return;
    wrong++;
    System.out.println(what + " answered " + got + ", due is " + due);
  }

  static byte[] bytes(String s) {
    return s.getBytes(java.nio.charset.StandardCharsets.ISO_8859_1);
  }

  static void tape(PolicyHouse house, byte[] b) {
    for (int i = 0; i < b.length; i += 20) {
      int[] v = new int[5];
      for (int k = 0; k < 20; k++) {
        v[k / 4] = v[k / 4] << 8 | (i + k < b.length ? b[i + k] & 255 : 0);
      }
      house.feed(v[0], v[1], v[2], v[3], v[4]);
    }
    house.end(b.length);
  }

  void tape(String s) {
    tape(h, bytes(s));
  }

  int module(String s) {
    tape(s);
    return h.module();
  }

  int data(String s) {
    tape(s);
    return h.data();
  }

  int patch(String s) {
    tape(s);
    return h.patch();
  }

  int input(String s) {
    tape(s);
    return h.input();
  }

  int prepare(String s) {
    tape(s);
    return h.prepare();
  }

  String out(int n) {
    if (n < 0) return "none";
    StringBuilder b = new StringBuilder();
    for (int i = 0; i < n; i++) b.append((char) h.output(i));
    return b.toString();
  }

  /** How many rules the bundle of these modules has, or its fault as kind:module@place. */
  String mods(String... texts) {
    h.drop();
    for (String s : texts) {
      int n = module(s);
      if (n < 0) return "wrong " + (-1 - n);
    }
    int n = h.activate();
    return n < 0 ? h.fault(0) + ":" + h.fault(1) + "@" + h.fault(2) : "" + n;
  }

  /** The results of a query in their order, or kind@place of its fault, or what run answers. */
  String ask(String q, boolean strict) {
    int p = prepare(q);
    if (p <= -7000) return h.fault(0) + "@" + h.fault(2);
    if (p < 0) return "wrong " + (-1 - p);
    int n = h.run(p, strict);
    StringBuilder b = new StringBuilder(n < 0 ? "" + n : "");
    for (int i = 0; i < n; i++) {
      if (i > 0) b.append(' ');
      b.append(out(h.result(i, 0)));
    }
    h.release(p);
    return b.toString();
  }

  String ask(String q) {
    return ask(q, false);
  }
}
