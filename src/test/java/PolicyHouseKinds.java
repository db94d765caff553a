// Part V of the document: the numbers of the BUILT-INS, their operands, the kinds that these take or never take.
public final class PolicyHouseKinds extends Sheet {
  /** In the order of their numbers; y is x, but of count, which never takes numbers, booleans, null. */
  private static final String[] ALL = ("abs n ceil n floor n round n numbers.range ww count y sum c product c max c min c sort c "
      + "concat sc strings.includes ss startswith ss endswith ss indexof ss lower s upper s replace sss split ss strings.reverse s "
      + "substring sww trim ss trim_left ss trim_right ss trim_prefix ss trim_suffix ss trim_space s strings.count ss format_int nw "
      + "to_number x sprintf sa array.concat aa array.slice aww array.reverse a object.get oxx object.keys o object.remove ox "
      + "object.filter ox object.union oo json.patch xa union t intersection t is_null x is_boolean x is_number x is_string x "
      + "is_array x is_object x is_set x type_name x base64.encode s base64.decode s hex.encode s hex.decode s urlquery.encode s "
      + "urlquery.decode s json.marshal x json.unmarshal s regex.match ss glob.match sxs net.cidr_contains ss semver.is_valid s "
      + "semver.compare ss units.parse_bytes s time.date w time.clock w time.weekday w time.seconds a walk x").split(" ");
  private static final String[] VALUES = {"null", "true", "false", "0", "-1.5", "\"\"", "`a`", "[]", "[1]", "{}", "{1: 2}", "{1}", "set()",
    "(\"a\")", "((0))", "([[]])"};
  private static final String KINDS = "-bbnnssaaoottsna";

  private static boolean takes(char letter, char kind) {
    if (letter == 'x') return true;
    if (letter == 'y') return "soat".indexOf(kind) >= 0;
    if (letter == 'c') return kind == 'a' || kind == 't';
    return kind == (letter == 'w' ? 'n' : letter);
  }

  /** A value of the kind that an operand takes. */
  private static String right(char letter) {
    switch (letter) {
      case 'n':
      case 'w':
        return "data.k[0]";
      case 's':
        return "data.k[1]";
      case 'o':
        return "data.k[3]";
      case 't':
        return "{data.k}";
      default:
        return "data.k[2]";
    }
  }

  private static String call(int id, int operand, String value) {
    StringBuilder s = new StringBuilder(ALL[2 * id]).append("(");
    String letters = ALL[2 * id + 1];
    for (int i = 0; i < letters.length(); i++) s.append(i > 0 ? ", " : "").append(i == operand ? value : right(letters.charAt(i)));
    return s.append(")").toString();
  }

  /** "KINDS that an operand never takes (FAULT 9)": scalar CONSTANTS and CONSTANTS [ ], { }, set( ), at the operand. */
  private static void faults() {
    for (int id = 0; id < 70; id++) {
      String letters = ALL[2 * id + 1];
      for (int i = 0; i < letters.length(); i++) {
        for (int v = 0; v < VALUES.length; v++) {
          String q = "x := " + call(id, i, VALUES[v]);
          ready(q.length(), 0);
          int got = d.prepare(q);
          boolean takes = takes(letters.charAt(i), KINDS.charAt(v));
          same(q, got >= 0 ? 0 : got, takes ? 0 : -7009);
          int at = 5 + ALL[2 * id].length() + 1;
          for (int k = 0; k < i; k++) at += right(letters.charAt(k)).length() + 2;
          same("PLACE in " + q, d.h().fault(2), takes ? -1 : at);
          d.h().release(got);
        }
        // What is no CONSTANT has no kind as yet.
        for (String open : new String[] {"[data.q]", "{data.q}", "{1: data.q}", "[y | y := 1]", "(1 + 1)", "data.q", "count([])"}) {
          String q = "x := " + call(id, i, open);
          ready(q.length(), 0);
          int got = d.prepare(q);
          same(q, got >= 0, true);
          d.h().release(got);
        }
      }
    }
  }

  /** "a CALL .. of another number of operands than it takes (at its first byte)" is FAULT 2. */
  private static void operands() {
    for (int id = 0; id < 70; id++) {
      int n = ALL[2 * id + 1].length();
      for (int k = 0; k <= 5; k++) {
        String q = "x := " + ALL[2 * id] + "(" + "data.q, ".repeat(k).replaceAll(", $", "") + ")";
        asks(q, k == n ? "" : "2@5");
      }
    }
    asks("x := abs_(1)", "2@5");
    asks("x := json(1)", "2@5");
    asks("x := json.walk(1)", "2@5");
    asks("x := walk.json(1)", "2@5");
  }

  /** "no value if one is of another kind": NOTED with its number in a STRICT RUN. */
  private static void values() {
    world("{\"k\":[1,\"a\",[],{}]}", null);
    String[] other = {"z[0]", "z[1]", "z[2]", "z[3]", "z[4]", "z[5]", "z[6]"};
    String kinds = "-bnsaot";
    for (int id = 0; id < 70; id++) {
      String letters = ALL[2 * id + 1];
      for (int i = 0; i < letters.length(); i++) {
        for (int v = 0; v < other.length; v++) {
          if (takes(letters.charAt(i), kinds.charAt(v))) continue;
          String q = "z := [null, true, 1, \"\", [], {}, set()]; not " + call(id, i, other[v]);
          ready(q.length(), 10);
          int n = d.prepare(q);
          same(q, d.h().run(n, false), 1);
          same("strict " + q, d.h().run(n, true), -103);
          same("about " + q, d.h().about(1), id);
          d.h().release(n);
        }
      }
      if (letters.indexOf('w') >= 0) {
        for (String part : new String[] {"0.5", "0.000001", "-1.999999"}) {
          String q = "not " + call(id, letters.indexOf('w'), part);
          ready(q.length(), 10);
          int n = d.prepare(q);
          same("strict " + q, d.h().run(n, true), -103);
          same("about " + q, d.h().about(1), id);
          d.h().release(n);
        }
      }
    }
    world(null, null);
  }

  public static void main(String[] args) {
    faults();
    operands();
    values();
    Desk.end("kinds");
  }
}
