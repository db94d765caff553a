import java.util.Arrays;
import java.util.NoSuchElementException;

/** A desk for policies: modules, bundles, queries and documents, as ../shared/DOC.md tells. */
public final class PolicyHouse {
  public static final int NONE = -1;
  public static final int FULL = -10000;

  private static final int TAPE = 6000;
  // No object is used for more calls: what is kept of texts for good has its bound by this.
  private static final int FEEDS = 512;
  private static final int MODULES = 4;
  private static final int QUERIES = 4;
  // A DOCUMENT that with made of THE TREE has at most some 14 million bytes: room for one is made
  // at once, and used again, so that OUTPUTS each greater than the last one do not fill the room.
  private static final int GREATEST = 1900000;

  private final Heap heap = new Heap();
  private final Texts texts = new Texts(heap);
  private final Names names = new Names(heap);
  private final Reader reader = new Reader(heap, texts, names);
  private final Checker checker = new Checker(heap, names);
  private final Coder coder = new Coder(heap, names, checker);
  private final Scopes scopes = new Scopes(heap, names);
  private final Machine machine;
  private final int[] tape = new int[TAPE];
  private int taped = 0;
  private int feeds = 0;
  private final Tree[] draft = new Tree[MODULES];
  private int drafts = 0;
  private Bundle built = null;
  private Bundle active;
  private final Query[] queries = new Query[QUERIES];
  private final int[] found = {0, NONE, NONE};
  private int data;
  private int input = 0;
  private int ranData = 0;
  private int ranInput = 0;
  private long[] shown = new long[Texts.LONGEST / 8];
  private int bytes = 0;

  public PolicyHouse() {
    Strings strings = new Strings(heap, texts, names);
    machine = new Machine(heap, scopes, new Builtins(heap, texts, names, strings));
    data = heap.copyTo(0, heap.made(Heap.OBJECT, 0, true));
    heap.reset(Heap.RUN);
    active = bundleOfDraft();
  }

  public boolean feed(int a, int b, int c, int d, int e) {
    if (taped + 20 > TAPE || feeds >= FEEDS) return false;
    feeds++;
    put(a);
    put(b);
    put(c);
    put(d);
    put(e);
    return true;
  }

  private void put(int four) {
    for (int i = 24; i >= 0 && taped < TAPE; i -= 8) {
      tape[taped] = four >>> i & 255;
      taped++;
    }
  }

  public boolean end(int n) {
    if (n < 0 || n > taped) return false;
    taped = n;
    return true;
  }

  private int emptied() {
    int n = taped;
    taped = 0;
    return n;
  }

  public int module() {
    Tree tree = reader.readModule(tape, emptied());
    if (tree == null) return -1 - reader.wrong;
    if (drafts >= MODULES) return FULL;
    draft[drafts] = tree;
    drafts++;
    built = null;
    return tree.rules;
  }

  public int drop() {
    int n = drafts;
    drafts = 0;
    built = null;
    return n;
  }

  /** What is built of a draft stays good until the draft is another one. */
  private Bundle bundleOfDraft() {
    if (built != null) return built;
    Bundle b = checker.bundle(draft, drafts);
    if (b.kind == 0) coder.finish(b);
    if (b.kind == 0) coder.encode();
    built = b;
    return b;
  }

  private int find(int kind, int module, int place) {
    found[0] = kind;
    found[1] = kind == 0 ? NONE : module;
    found[2] = kind == 0 ? NONE : place;
    return kind;
  }

  public int check() {
    Bundle b = bundleOfDraft();
    return find(b.kind, b.module, b.place);
  }

  public int activate() {
    Bundle b = bundleOfDraft();
    if (find(b.kind, b.module, b.place) != 0) return -b.kind;
    active = b;
    return b.rules;
  }

  public int fault(int what) {
    return what < 0 || what > 2 ? NONE : found[what];
  }

  /** One of some slots that nothing is kept in. */
  private int freeSlot(int first, int n) {
    for (int slot = first; slot < first + n; slot++) {
      boolean taken = isIn(slot, data) || isIn(slot, input) || isIn(slot, ranData)
          || isIn(slot, ranInput);
      for (int q = 0; q < QUERIES; q++) {
        taken = taken || queries[q] != null && isIn(slot, queries[q].value);
      }
      if (!taken) return slot;
    }
    return first;
  }

  private static boolean isIn(int slot, int value) {
    int start = Heap.SLOTS + slot * Heap.SLOT;
    return value >= start && value < start + Heap.SLOT;
  }

  public int data() {
    int mark = heap.top;
    int h = texts.readJson(tape, 0, emptied());
    heap.top = mark;
    return h <= 0 ? -1 - texts.wrong : takeData(h);
  }

  private int takeData(int h) {
    if (heap.kind(h) != Heap.OBJECT || heap.tooGreat(h)) return FULL;
    data = heap.copyTo(freeSlot(0, 7), h);
    return heap.weight(data);
  }

  public int patch() {
    int mark = heap.top;
    int h = texts.readJson(tape, 0, emptied());
    int changed = 0;
    if (h > 0 && heap.kind(h) == Heap.ARRAY) changed = machine.builtins.patched(data, h, true);
    heap.top = mark;
    if (h <= 0) return -1 - texts.wrong;
    return changed <= 0 ? FULL : takeData(changed);
  }

  public int input() {
    if (taped == 0) {
      input = 0;
      return 0;
    }
    int mark = heap.top;
    int h = texts.readJson(tape, 0, emptied());
    heap.top = mark;
    if (h <= 0) return -1 - texts.wrong;
    if (heap.tooGreat(h)) return FULL;
    input = heap.copyTo(freeSlot(7, 3), h);
    return heap.weight(input);
  }

  private int findQuery(Bundle bundle, Tree tree) {
    int kind = coder.checkQuery(bundle, tree);
    return find(kind, NONE, coder.badPlace);
  }

  public int prepare() {
    Tree tree = reader.readQuery(tape, emptied());
    if (tree == null) return -1 - reader.wrong;
    int kind = findQuery(active, tree);
    if (kind != 0) return -7000 - kind;
    for (int q = 0; q < QUERIES; q++) {
      if (queries[q] != null) continue;
      queries[q] = new Query(tree);
      install(queries[q]);
      return q;
    }
    return FULL;
  }

  /** The query, just checked, takes the bundle and DATA that are there now. */
  private void install(Query q) {
    q.frame = coder.query(q.tree);
    if (q.code == null || q.code.length < coder.size) q.code = new int[coder.size];
    System.arraycopy(coder.code, 0, q.code, 0, coder.size);
    q.bundle = active;
    q.value = data;
    q.setReads(checker);
    q.setOrder();
  }

  private Query query(int q) {
    return q < 0 || q >= QUERIES ? null : queries[q];
  }

  public int renew(int query) {
    Query q = query(query);
    if (q == null) return NONE;
    int kind = q.bundle == active ? find(0, NONE, NONE) : findQuery(active, q.tree);
    if (kind != 0) return -kind;
    if (q.bundle == active) q.value = data;
    else install(q);
    return 1;
  }

  public boolean release(int query) {
    if (query(query) == null) return false;
    queries[query] = null;
    return true;
  }

  public int run(int query, boolean strict) {
    Query q = query(query);
    if (q == null) return NONE;
    ranData = q.value;
    ranInput = input;
    machine.perform(q, input, strict);
    int kind = scopes.outcome();
    return kind > 0 ? -100 - kind : heap.size(machine.results);
  }

  private boolean hasRun() {
    return machine.bundle != null;
  }

  private boolean hasRunOut() {
    return machine.bundle != null && !scopes.limit;
  }

  public int about(int what) {
    if (!hasRun()) return NONE;
    int kind = scopes.outcome();
    switch (what) {
      case 0:
        return kind;
      case 1:
        return kind == 1 ? scopes.leastRule : kind == 3 ? scopes.leastBuiltin : NONE;
      case 2:
        return scopes.fuel;
      case 3:
        return kind == 0 ? heap.size(machine.results) : 0;
      default:
        return NONE;
    }
  }

  public int covered(int rule) {
    if (!hasRunOut() || rule < -1 || rule >= machine.bundle.rules) return NONE;
    return scopes.tries[rule + 1];
  }

  private int show(int h, boolean json) {
    texts.measure(json ? Texts.LONGEST : Texts.ENDLESS);
    texts.show(h, json, 0);
    if (texts.over) return NONE;
    bytes = texts.length;
    if (bytes > 8 * shown.length) shown = new long[Math.max(GREATEST, bytes / 8 + 1)];
    texts.pack(bytes, shown);
    texts.show(h, json, 0);
    return bytes;
  }

  public int result(int i, int form) {
    if (!hasRun() || scopes.outcome() != 0 || form < 0 || form > 1) return NONE;
    if (i < 0 || i >= heap.size(machine.results)) return NONE;
    return show(heap.item(machine.results, i), form == 1);
  }

  public int document(int rule) {
    if (!hasRunOut() || rule < 0 || rule >= machine.bundle.rules) return NONE;
    int h = heap.cell[machine.scope + Scopes.RULES + rule];
    return h <= 0 ? NONE : show(h, false);
  }

  public int output(int i) {
    return i < 0 || i >= bytes ? NONE : (int) (shown[i >> 3] >>> 8 * (i & 7)) & 255;
  }

  public int rule(int rule, int what) throws NoSuchElementException {
    if (rule < 0 || rule >= active.rules) throw new NoSuchElementException("no such rule");
    int at = active.of(rule, Bundle.FIRST) * Bundle.STRIDE;
    int module = active.part[at + Bundle.MOD];
    switch (what) {
      case 0:
        return active.of(rule, Bundle.SORT);
      case 1:
        return module;
      case 2:
        return active.mods[module].at[active.part[at + Bundle.PART]];
      case 3:
        return active.of(rule, Bundle.PARTS);
      case 4:
        return active.of(rule, Bundle.DEPENDS);
      default:
        return NONE;
    }
  }

  public int order(int query, int k) {
    Query q = query(query);
    return q == null || k < 0 || k >= q.order.length ? NONE : q.order[k];
  }

  public int count(int what) {
    switch (what) {
      case 0:
        return drafts;
      case 1:
        return active.rules;
      case 2: {
        int n = 0;
        for (int q = 0; q < QUERIES; q++) n += queries[q] == null ? 0 : 1;
        return n;
      }
      case 3:
        return heap.weight(data);
      case 4:
        return input == 0 ? 0 : heap.weight(input);
      case 5:
        return taped;
      case 6:
        return bytes;
      default:
        return NONE;
    }
  }

  /** Values in one row of cells: a value is the place of its head, whose low four bits are its kind. */
  static final class Heap {
    static final int NULL = 1;
    static final int FALSE = 2;
    static final int TRUE = 3;
    static final int BIG = -1;
    static final int NUMBER = 3;
    static final int STRING = 4;
    static final int ARRAY = 5;
    static final int OBJECT = 6;
    static final int SET = 7;
    static final long ONE = 1000000L;
    static final long MOST = 1000000000000000000L;
    static final int HEAVY = 4000;
    static final int DEEP = 20;
    static final int SLOTS = 60000;
    static final int SLOT = 16500;
    static final int RUN = 258000;
    static final int SPILL = 820000;
    static final int CELLS = 886000;
    // What with makes of DATA may be greater: 65 deep and some 680000 by the FUEL that it takes.
    static final int LAX = 4000000;
    static final int LAXDEEP = 100;

    final int[] cell = new int[CELLS];
    final int[] acc = new int[90000];
    final int[] spare = new int[90000];
    int used = 0;
    int kept = 16;
    int top = RUN;
    int end = SPILL;
    boolean full = false;

    Heap() {
      cell[FALSE] = 1;
      cell[TRUE] = 2;
      for (int kind = ARRAY; kind <= SET; kind++) {
        cell[empty(kind)] = kind;
        cell[empty(kind) + 1] = 1 << 8 | 1;
      }
    }

    /** Where the row of a kind with nothing in it stands, once for all. */
    static int empty(int kind) {
      return 4 + 2 * (kind - ARRAY);
    }

    /** The spill takes what is made too much until the run is ended for it. */
    int room(int n) {
      if (top + n > end) {
        full = true;
        top = SPILL;
        end = CELLS;
      }
      int h = top;
      top += n;
      return h;
    }

    void reset(int place) {
      top = place;
      end = SPILL;
      full = false;
      used = 0;
    }

    void push(int value) {
      if (used < acc.length) {
        acc[used] = value;
        used++;
      } else {
        full = true;
      }
    }

    int kind(int h) {
      return cell[h] & 15;
    }

    int size(int h) {
      return cell[h] >>> 4;
    }

    long number(int h) {
      return ((long) cell[h + 1] << 32) | (cell[h + 2] & 0xffffffffL);
    }

    boolean isWhole(int h) {
      return kind(h) == NUMBER && number(h) % ONE == 0;
    }

    int weight(int h) {
      int kind = cell[h] & 15;
      if (kind <= NUMBER) return 1;
      return kind == STRING ? 1 + (cell[h] >>> 4) : cell[h + 1] >>> 8;
    }

    int depth(int h) {
      return (cell[h] & 15) <= STRING ? 1 : cell[h + 1] & 255;
    }

    boolean tooGreat(int h) {
      return weight(h) > HEAVY || depth(h) > DEEP;
    }

    int checked(int h) {
      return h > 0 && tooGreat(h) ? BIG : h;
    }

    int newNumber(long value) {
      int h = room(3);
      cell[h] = NUMBER;
      cell[h + 1] = (int) (value >>> 32);
      cell[h + 2] = (int) value;
      return h;
    }

    /** None for a number that is out of bounds. */
    int bounded(long value) {
      return value > MOST || value < -MOST ? 0 : newNumber(value);
    }

    int truth(boolean yes) {
      return yes ? TRUE : FALSE;
    }

    int newString(int[] from, int at, int n) {
      if (n >= HEAVY) return BIG;
      int h = room(n + 1);
      cell[h] = STRING | n << 4;
      System.arraycopy(from, at, cell, h + 1, n);
      return h;
    }

    int keepString(int[] from, int at, int n) {
      if (kept + n + 1 > SLOTS) return NULL;
      int h = kept;
      kept += n + 1;
      cell[h] = STRING | n << 4;
      System.arraycopy(from, at, cell, h + 1, n);
      return h;
    }

    int keepNumber(long value) {
      if (kept + 3 > SLOTS) return NULL;
      int h = kept;
      kept += 3;
      cell[h] = NUMBER;
      cell[h + 1] = (int) (value >>> 32);
      cell[h + 2] = (int) value;
      return h;
    }

    /** What the order of all values says: below 0, 0 or above 0. Values are few levels deep. */
    private int compare(int x, int y) {
      if (x == y) return 0;
      int kind = cell[x] & 15;
      int other = cell[y] & 15;
      if (kind != other) return kind < other ? -1 : 1;
      if (kind < NUMBER) return 0;
      if (kind == NUMBER) {
        int high = Integer.compare(cell[x + 1], cell[y + 1]);
        if (high != 0) return high;
        return Long.compare(cell[x + 2] & 0xffffffffL, cell[y + 2] & 0xffffffffL);
      }
      int parts = kind == OBJECT ? 2 : 1;
      int n = (cell[x] >>> 4) * parts;
      int m = (cell[y] >>> 4) * parts;
      int both = Math.min(n, m);
      for (int i = 0; i < both; i++) {
        int c = kind == STRING ? Integer.compare(cell[x + 1 + i], cell[y + 1 + i])
            : compare(cell[x + 2 + i], cell[y + 2 + i]);
        if (c != 0) return c;
      }
      return Integer.compare(n, m);
    }

    boolean equal(int x, int y) {
      return compare(x, y) == 0;
    }

    /** Sorts n entries of step cells by their first cell; equal ones stay as they come. */
    void sort(int base, int n, int step) {
      for (int width = 1; width < n; width *= 2) {
        int i = 0;
        int j = width;
        for (int k = 0; k < n; k++) {
          int low = k / (2 * width) * (2 * width);
          if (k == low) {
            i = low;
            j = low + width;
          }
          boolean right = j < Math.min(low + 2 * width, n);
          boolean left = i < low + width
              && (!right || compare(acc[base + i * step], acc[base + j * step]) <= 0);
          int from = base + (left ? i : j) * step;
          for (int s = 0; s < step; s++) spare[base + k * step + s] = acc[from + s];
          if (left) i++;
          else j++;
        }
        System.arraycopy(spare, base, acc, base, n * step);
      }
    }

    /**
     * The array, set or object of what was pushed from base on: BIG if it is too great, 0 for an
     * object with equal keys of unequal values. A lax one may be great, and takes the last value.
     */
    int made(int kind, int base, boolean lax) {
      int step = kind == OBJECT ? 2 : 1;
      int n = (used - base) / step;
      used = base;
      // Without FUEL there may be many of these: they must not take room.
      if (n <= 0) return empty(kind);
      if (kind != ARRAY) {
        sort(base, n, step);
        int left = 0;
        for (int i = 0; i < n; i++) {
          int from = base + i * step;
          int to = base + (left - 1) * step;
          if (left > 0 && compare(acc[to], acc[from]) == 0) {
            if (step == 2 && !lax && compare(acc[to + 1], acc[from + 1]) != 0) return 0;
            if (step == 2) acc[to + 1] = acc[from + 1];
          } else {
            for (int s = 0; s < step; s++) acc[to + step + s] = acc[from + s];
            left++;
          }
        }
        n = left;
      }
      int weight = 1;
      int depth = 0;
      for (int i = base; i < base + n * step && weight <= LAX; i++) {
        weight += weight(acc[i]);
        depth = Math.max(depth, depth(acc[i]));
      }
      if (weight > (lax ? LAX : HEAVY) || depth >= (lax ? LAXDEEP : DEEP)) return BIG;
      int h = room(n * step + 2);
      cell[h] = kind | n << 4;
      cell[h + 1] = weight << 8 | depth + 1;
      System.arraycopy(acc, base, cell, h + 2, n * step);
      return h;
    }

    /** Where a key is in an object, an element in a set; -1. */
    int find(int h, int key) {
      int step = (cell[h] & 15) == OBJECT ? 2 : 1;
      int low = 0;
      int high = (cell[h] >>> 4) - 1;
      while (low <= high) {
        int middle = (low + high) >>> 1;
        int c = compare(cell[h + 2 + middle * step], key);
        if (c == 0) return middle;
        if (c < 0) low = middle + 1;
        else high = middle - 1;
      }
      return -1;
    }

    /** The element, or value of an object, at a place. */
    int item(int h, int i) {
      return kind(h) == OBJECT ? cell[h + 3 + 2 * i] : cell[h + 2 + i];
    }

    /** The number, key or element at a place. */
    int label(int h, int i) {
      int kind = kind(h);
      if (kind == ARRAY) return newNumber(i * ONE);
      return kind == OBJECT ? cell[h + 2 + 2 * i] : cell[h + 2 + i];
    }

    /** What a step by a value goes to, or 0. */
    int stepTo(int h, int key) {
      int kind = kind(h);
      if (kind == ARRAY) {
        long i = (cell[key] & 15) == NUMBER ? number(key) : -1;
        return i < 0 || i % ONE != 0 || i / ONE >= size(h) ? 0 : cell[h + 2 + (int) (i / ONE)];
      }
      if (kind != OBJECT && kind != SET) return 0;
      int i = find(h, key);
      if (i < 0) return 0;
      return kind == OBJECT ? cell[h + 3 + 2 * i] : cell[h + 2 + i];
    }

    boolean isRow(int h) {
      return kind(h) >= ARRAY;
    }

    /** A copy, with all that is in it, from top on. */
    private int copy(int h) {
      int kind = kind(h);
      if (kind < NUMBER) return h;
      int n = size(h);
      int cells = kind == NUMBER ? 3 : kind == STRING ? n + 1 : kind == OBJECT ? 2 * n + 2 : n + 2;
      int c = room(cells);
      System.arraycopy(cell, h, cell, c, cells);
      if (kind >= ARRAY) {
        for (int i = 2; i < cells; i++) cell[c + i] = copy(cell[h + i]);
      }
      return c;
    }

    int copyTo(int slot, int h) {
      int was = top;
      top = SLOTS + slot * SLOT;
      int c = copy(h);
      top = was;
      return c;
    }

    boolean has(int h, String text) {
      if (kind(h) != STRING || size(h) != text.length()) return false;
      for (int i = 0; i < text.length(); i++) {
        if (cell[h + 1 + i] != text.charAt(i)) return false;
      }
      return true;
    }

    /** The string of the signs of a text from a place up to a blank. */
    int newWord(String text, int from) {
      int n = 0;
      while (from + n < text.length() && text.charAt(from + n) != ' ') n++;
      int h = room(n + 1);
      cell[h] = STRING | n << 4;
      for (int i = 0; i < n; i++) cell[h + 1 + i] = text.charAt(from + i);
      return h;
    }
  }

  /** Reads JSON and its numbers and strings; prints values. */
  static final class Texts {
    static final int LONGEST = 100000;
    static final int ENDLESS = 100000000;
    final Heap heap;
    int[] in = null;
    int to = 0;
    int pos = 0;
    int wrong = -1;
    int stop = 0;
    long value = 0;
    final int[] buf = new int[6004];
    int size = 0;
    final int[] out = new int[Heap.HEAVY];
    boolean stored = true;
    long[] packed = null;
    int length = 0;
    int limit = 0;
    boolean over = false;

    Texts(Heap heap) {
      this.heap = heap;
    }

    static boolean isDigit(int c) {
      return c >= '0' && c <= '9';
    }

    static boolean isBlank(int c) {
      return c == 32 || c == 9 || c == 10 || c == 13;
    }

    static boolean isLetter(int c) {
      return c >= 'a' && c <= 'z' || c >= 'A' && c <= 'Z';
    }

    static int hexDigit(int c) {
      if (c >= '0' && c <= '9') return c - '0';
      if (c >= 'a' && c <= 'f') return c - 'a' + 10;
      return c >= 'A' && c <= 'F' ? c - 'A' + 10 : -1;
    }

    /** Reads a number: -1, or where it is wrong. */
    int readNumber(int[] src, int from, int end) {
      int p = from;
      boolean minus = p < end && src[p] == '-';
      if (minus) p++;
      if (p >= end || !isDigit(src[p])) return p;
      long whole = 0;
      if (src[p] == '0') {
        p++;
      } else {
        for (; p < end && isDigit(src[p]); p++) {
          whole = Math.min(whole * 10 + src[p] - '0', 2000000000000L);
        }
      }
      boolean point = p < end && src[p] == '.';
      if (point) p++;
      long part = 0;
      int digits = 0;
      for (; point && digits < 6 && p < end && isDigit(src[p]); p++) {
        part = part * 10 + src[p] - '0';
        digits++;
      }
      for (int i = digits; i < 6; i++) part *= 10;
      long all = whole * Heap.ONE + part;
      if (all > Heap.MOST) return from;
      if (point && digits == 0) return p;
      if (digits == 6 && p < end && isDigit(src[p])) return p;
      value = minus ? -all : all;
      stop = p;
      return -1;
    }

    void keep(int c) {
      if (size < buf.length) {
        buf[size] = c;
        size++;
      }
    }

    /** Reads a string from behind its first sign on: -1, or where it is wrong. */
    int readString(int[] src, int from, int end) {
      size = 0;
      int p = from;
      while (p < end && src[p] != '"') {
        if (src[p] < 32) return p;
        if (src[p] == '\\') {
          int bad = readEscape(src, p, end);
          if (bad >= 0) return bad;
          p = stop;
        } else {
          keep(src[p]);
          p++;
        }
      }
      if (p >= end) return end;
      stop = p + 1;
      return -1;
    }

    int readEscape(int[] src, int at, int end) {
      if (at + 1 >= end) return end;
      int c = src[at + 1];
      stop = at + 2;
      if (c == 'u') {
        int code = 0;
        for (int i = 0; i < 4; i++) {
          if (at + 2 + i >= end) return end;
          int digit = hexDigit(src[at + 2 + i]);
          if (digit < 0 || i < 2 && digit != 0) return at;
          code = code * 16 + digit;
        }
        keep(code);
        stop = at + 6;
        return -1;
      }
      int i = "\"\\/bfnrt".indexOf((char) c);
      if (i < 0) return at;
      keep("\"\\/\b\f\n\r\t".charAt(i));
      return -1;
    }

    /** The value of a JSON text, or 0 and where it is wrong. */
    int readJson(int[] src, int from, int end) {
      in = src;
      pos = from;
      to = end;
      wrong = -1;
      int h = readValue(0);
      skip();
      if (wrong < 0 && pos < to) wrong = pos;
      return wrong < 0 ? h : 0;
    }

    void skip() {
      while (pos < to && isBlank(in[pos])) pos++;
    }

    void fail(int place) {
      if (wrong < 0) wrong = place;
    }

    boolean next(int c) {
      skip();
      if (wrong >= 0 || pos >= to || in[pos] != c) return false;
      pos++;
      return true;
    }

    void need(int c) {
      if (!next(c)) fail(pos);
    }

    int readWord(String word, int value) {
      for (int i = 0; i < word.length(); i++) {
        if (pos >= to || in[pos] != word.charAt(i)) {
          fail(pos);
          return Heap.NULL;
        }
        pos++;
      }
      return value;
    }

    private int readValue(int deep) {
      skip();
      if (wrong >= 0 || pos >= to) {
        fail(pos);
        return Heap.NULL;
      }
      int c = in[pos];
      if (c == 'n') return readWord("null", Heap.NULL);
      if (c == 'f') return readWord("false", Heap.FALSE);
      if (c == 't') return readWord("true", Heap.TRUE);
      if (c == '"') return readText();
      if (c == '-' || isDigit(c)) {
        int bad = readNumber(in, pos, to);
        if (bad >= 0) {
          fail(bad);
          return Heap.NULL;
        }
        pos = stop;
        return heap.newNumber(value);
      }
      if (c != '[' && c != '{' || deep >= 12) {
        fail(pos);
        return Heap.NULL;
      }
      pos++;
      return readRow(c == '{', deep + 1);
    }

    int readText() {
      int bad = readString(in, pos + 1, to);
      if (bad >= 0) {
        fail(bad);
        return Heap.NULL;
      }
      pos = stop;
      int n = size;
      int h = heap.room(n + 1);
      heap.cell[h] = Heap.STRING | n << 4;
      System.arraycopy(buf, 0, heap.cell, h + 1, n);
      return h;
    }

    private int readRow(boolean pairs, int deep) {
      int close = pairs ? '}' : ']';
      int base = heap.used;
      boolean more = !next(close);
      for (int n = 0; more && wrong < 0 && n < 6000; n++) {
        if (pairs) {
          skip();
          if (pos < to && in[pos] == '"') heap.push(readText());
          else fail(pos);
          need(':');
        }
        heap.push(readValue(deep));
        more = next(',');
      }
      if (heap.used > base && wrong < 0) need(close);
      if (wrong >= 0) {
        heap.used = base;
        return Heap.NULL;
      }
      return heap.made(pairs ? Heap.OBJECT : Heap.ARRAY, base, true);
    }

    /** Starts a print of at most so many bytes into out. */
    void start(int most) {
      length = 0;
      limit = Math.min(most, out.length);
      over = false;
      stored = true;
      packed = null;
    }

    /** Starts a print that is counted alone. */
    void measure(int most) {
      start(0);
      limit = most;
      stored = false;
    }

    /** Starts a print into a row, eight bytes in each of its elements. */
    void pack(int most, long[] row) {
      start(0);
      limit = Math.min(most, 8 * row.length);
      packed = row;
    }

    void put(int c) {
      if (length >= limit) {
        over = true;
        return;
      }
      if (packed != null) {
        int at = length >> 3;
        int shift = 8 * (length & 7);
        packed[at] = packed[at] & ~(255L << shift) | (long) c << shift;
      } else if (stored) {
        out[length] = c;
      }
      length++;
    }

    /** Each level of strings around puts a \ ahead of " and \ once more. */
    void putWithin(int c, int level) {
      if (c == '"' || c == '\\') {
        int slashes = (1 << level) - 1;
        for (int i = 0; i < slashes && !over; i++) put('\\');
      }
      put(c);
    }

    void putWord(String word) {
      for (int i = 0; i < word.length(); i++) put(word.charAt(i));
    }

    void putDigits(long whole, int base) {
      long unit = 1;
      for (int i = 0; i < 64 && whole / unit >= base; i++) unit *= base;
      long rest = whole;
      for (int i = 0; i < 64 && unit > 0; i++) {
        put("0123456789abcdef".charAt((int) (rest / unit)));
        rest %= unit;
        unit /= base;
      }
    }

    void putNumber(long v) {
      long all = v < 0 ? -v : v;
      if (v < 0) put('-');
      putDigits(all / Heap.ONE, 10);
      long part = all % Heap.ONE;
      if (part == 0) return;
      put('.');
      long unit = 100000;
      for (int i = 0; i < 6 && part > 0; i++) {
        put('0' + (int) (part / unit));
        part %= unit;
        unit = unit >= 10 ? unit / 10 : 1;
      }
    }

    void putString(int h, int level) {
      putWithin('"', level);
      int n = heap.size(h);
      for (int i = 0; i < n && !over; i++) {
        int c = heap.cell[h + 1 + i];
        int e = c < 128 ? "\"\\\b\f\n\r\t".indexOf((char) c) : -1;
        if (e >= 0) {
          putWithin('\\', level);
          putWithin("\"\\bfnrt".charAt(e), level);
        } else if (c < 32) {
          putWithin('\\', level);
          putWord("u00");
          put('0' + c / 16);
          put("0123456789abcdef".charAt(c % 16));
        } else {
          put(c);
        }
      }
      putWithin('"', level);
    }

    /** The PRINT of a value, or its JSON. */
    private void show(int h, boolean json, int level) {
      if (over) return;
      int kind = heap.kind(h);
      if (kind < Heap.NUMBER) {
        putWord(kind == 0 ? "null" : kind == 1 ? "false" : "true");
      } else if (kind == Heap.NUMBER) {
        putNumber(heap.number(h));
      } else if (kind == Heap.STRING) {
        putString(h, level);
      } else if (kind == Heap.SET && !json && heap.size(h) == 0) {
        putWord("set()");
      } else {
        boolean square = kind == Heap.ARRAY || kind == Heap.SET && json;
        put(square ? '[' : '{');
        for (int i = 0; i < heap.size(h) && !over; i++) {
          if (i > 0) put(',');
          if (kind == Heap.OBJECT) showKey(heap.cell[h + 2 + 2 * i], json, level);
          show(heap.item(h, i), json, level);
        }
        put(square ? ']' : '}');
      }
    }

    private void showKey(int key, boolean json, int level) {
      if (json && heap.kind(key) != Heap.STRING) {
        putWithin('"', level);
        show(key, true, level + 1);
        putWithin('"', level);
      } else {
        show(key, json, level);
      }
      put(':');
    }
  }

  /** Names, each kept once as a string, and paths of them, each a node once. */
  static final class Names {
    static final int MOST = 12288;
    static final int HASH = 16384;
    static final String WORDS = "package import as default if contains else some in every not with true false null input data set _ ";
    static final String BUILTINS = "abs n ceil n floor n round n numbers.range ww count y sum c product c max c min c sort c concat sc strings.includes ss startswith ss endswith ss indexof ss lower s upper s replace sss split ss strings.reverse s substring sww trim ss trim_left ss trim_right ss trim_prefix ss trim_suffix ss trim_space s strings.count ss format_int nw to_number x sprintf sa array.concat aa array.slice aww array.reverse a object.get oxx object.keys o object.remove ox object.filter ox object.union oo json.patch xa union t intersection t is_null x is_boolean x is_number x is_string x is_array x is_object x is_set x type_name x base64.encode s base64.decode s hex.encode s hex.decode s urlquery.encode s urlquery.decode s json.marshal x json.unmarshal s regex.match ss glob.match sxs net.cidr_contains ss semver.is_valid s semver.compare ss units.parse_bytes s time.date w time.clock w time.weekday w time.seconds a walk x ";
    final Heap heap;
    final int[] table = new int[HASH];
    final int[] parent = new int[MOST];
    final int[] name = new int[MOST];
    final int[] child = new int[MOST];
    final int[] sibling = new int[MOST];
    int nodes = 1;
    final int[] words = new int[19];
    final int[] builtin = new int[256];
    final int[] kinds = new int[70];
    final int[] arity = new int[70];
    final int[] letters = new int[32];
    final int input;
    final int data;
    final int set;
    final int blank;

    Names(Heap heap) {
      this.heap = heap;
      int at = 0;
      for (int i = 0; i < 19; i++) {
        int stop = stopOf(WORDS, at);
        words[i] = symOf(WORDS, at, stop);
        at = stop + 1;
      }
      input = words[15];
      data = words[16];
      set = words[17];
      blank = words[18];
      at = 0;
      for (int i = 0; i < 70; i++) {
        int stop = stopOf(BUILTINS, at);
        int node = nodeOf(BUILTINS, at, stop);
        if (node < builtin.length) builtin[node] = i + 1;
        at = stop + 1;
        stop = stopOf(BUILTINS, at);
        kinds[i] = at;
        arity[i] = stop - at;
        at = stop + 1;
      }
    }

    private static int stopOf(String text, int from) {
      int i = from;
      while (i < text.length() && text.charAt(i) != ' ') i++;
      return i;
    }

    private int symOf(String text, int from, int stop) {
      int n = Math.min(stop - from, letters.length);
      for (int i = 0; i < n; i++) letters[i] = text.charAt(from + i);
      return sym(letters, 0, n);
    }

    private int nodeOf(String text, int from, int stop) {
      int node = 0;
      int at = from;
      for (int i = from; i <= stop; i++) {
        if (i == stop || text.charAt(i) == '.') {
          node = node(node, symOf(text, at, i));
          at = i + 1;
        }
      }
      return node;
    }

    boolean same(int h, int[] src, int from, int n) {
      if (heap.cell[h] >>> 4 != n) return false;
      for (int i = 0; i < n; i++) {
        if (heap.cell[h + 1 + i] != src[from + i]) return false;
      }
      return true;
    }

    /** The one string of these bytes that is kept. */
    int sym(int[] src, int from, int n) {
      int hash = n;
      for (int i = 0; i < n; i++) hash = hash * 31 + src[from + i];
      int slot = (hash ^ hash >>> 15) & HASH - 1;
      for (int i = 0; i < HASH; i++) {
        int h = table[slot];
        if (h == 0) {
          table[slot] = heap.keepString(src, from, n);
          return table[slot];
        }
        if (same(h, src, from, n)) return h;
        slot = slot + 1 & HASH - 1;
      }
      return blank;
    }

    /** The child of a node, or -1. */
    int find(int node, int sym) {
      for (int i = child[node]; i != 0; i = sibling[i]) {
        if (name[i] == sym) return i;
      }
      return -1;
    }

    /** The child of a node by any value, or -1. */
    int findValue(int node, int value) {
      if (heap.kind(value) != Heap.STRING) return -1;
      for (int i = child[node]; i != 0; i = sibling[i]) {
        if (heap.equal(name[i], value)) return i;
      }
      return -1;
    }

    /** The child of a node, made where it is not there. */
    int node(int up, int sym) {
      int n = find(up, sym);
      if (n >= 0 || nodes >= MOST) return Math.max(n, 0);
      n = nodes;
      nodes++;
      parent[n] = up;
      name[n] = sym;
      sibling[n] = child[up];
      child[up] = n;
      return n;
    }

    /** Whether a node is another one or behind it. */
    boolean within(int node, int top) {
      int n = node;
      for (int i = 0; i < 16 && n != top && n != 0; i++) n = parent[n];
      return n == top;
    }

    /** The names of a node's path into row: how many. */
    int pathOf(int node, int[] row) {
      int n = 0;
      for (int i = node; i != 0 && n < row.length; i = parent[i]) {
        row[n] = name[i];
        n++;
      }
      for (int i = 0, j = n - 1; i < j; i++, j--) {
        int h = row[i];
        row[i] = row[j];
        row[j] = h;
      }
      return n;
    }
  }

  /** A text that was read, as nodes; what is found out of a node stands in res, ref, last. */
  static final class Tree {
    static final int CONST = 1;
    static final int REF = 2;
    static final int DOT = 3;
    static final int AT = 4;
    static final int CALL = 5;
    static final int NAME = 6;
    static final int PAREN = 7;
    static final int ARRAY = 8;
    static final int SET = 9;
    static final int OBJECT = 10;
    static final int ARRAYS = 11;
    static final int OBJECTS = 12;
    static final int SETS = 13;
    static final int SIGNS = 14;
    static final int SIGN = 15;
    static final int BODY = 16;
    static final int SOME = 20;
    static final int SOMEIN = 21;
    static final int EVERY = 22;
    static final int NOT = 23;
    static final int TEST = 24;
    static final int UNIFY = 25;
    static final int ASSIGN = 26;
    static final int WITH = 27;
    static final int PART = 30;
    static final int BRANCH = 31;
    static final int IMPORT = 32;

    final int[] kind;
    final int[] at;
    final int[] a;
    final int[] b;
    final int[] c;
    final int[] first;
    final int[] next;
    final int[] last;
    final int[] res;
    final int[] ref;
    int size = 1;
    int pack = 0;
    int root = 0;
    int imports = 0;
    int rules = 0;

    Tree(int most) {
      kind = new int[most];
      at = new int[most];
      a = new int[most];
      b = new int[most];
      c = new int[most];
      first = new int[most];
      next = new int[most];
      last = new int[most];
      res = new int[most];
      ref = new int[most];
    }

    int add(int sort, int place) {
      if (size >= kind.length) return 0;
      int n = size;
      size++;
      kind[n] = sort;
      at[n] = place;
      return n;
    }

    void append(int up, int node) {
      if (node == 0) return;
      if (first[up] == 0) first[up] = node;
      else next[last[up]] = node;
      last[up] = node;
    }

    boolean isComprehension(int n) {
      return kind[n] >= ARRAYS && kind[n] <= SETS;
    }

    /** A term without references, calls, signs and comprehensions. */
    private boolean isConstant(int n) {
      if (kind[n] == CONST) return true;
      if (kind[n] < PAREN || kind[n] > OBJECT) return false;
      for (int i = first[n]; i != 0; i = next[i]) {
        if (!isConstant(i)) return false;
      }
      return true;
    }

    private boolean isPattern(int n) {
      if (kind[n] == REF) return first[n] == 0;
      if (kind[n] == ARRAY) {
        for (int i = first[n]; i != 0; i = next[i]) {
          if (!isPattern(i)) return false;
        }
        return true;
      }
      if (kind[n] == OBJECT) {
        for (int i = first[n]; i != 0; i = next[next[i]]) {
          if (!isConstant(i) || !isPattern(next[i])) return false;
        }
        return true;
      }
      return isConstant(n);
    }

    boolean isName(int n, int sym) {
      return kind[n] == REF && first[n] == 0 && a[n] == sym;
    }
  }

  /** Reads modules and queries: tokens first, then nodes; stops at the first wrong place. */
  static final class Reader {
    static final int END = 0;
    static final int NAME = 1;
    static final int NUM = 2;
    static final int STR = 3;
    static final int BAD = 4;
    static final int PACKAGE = 5;
    static final int IMPORT = 6;
    static final int AS = 7;
    static final int DEFAULT = 8;
    static final int IF = 9;
    static final int CONTAINS = 10;
    static final int ELSE = 11;
    static final int SOME = 12;
    static final int IN = 13;
    static final int EVERY = 14;
    static final int NOT = 15;
    static final int WITH = 16;
    static final int TRUE = 17;
    static final int FALSE = 18;
    static final int NULL = 19;
    static final int BECOMES = 20;
    static final int SAME = 21;
    static final int OTHER = 22;
    static final int ATMOST = 23;
    static final int ATLEAST = 24;
    static final int EQUALS = 25;
    static final int LESS = 26;
    static final int MORE = 27;
    static final int PLUS = 28;
    static final int MINUS = 29;
    static final int TIMES = 30;
    static final int OVER = 31;
    static final int REST = 32;
    static final int BAR = 33;
    static final int AND = 34;
    static final int OPEN = 35;
    static final int SHUT = 36;
    static final int LEFT = 37;
    static final int RIGHT = 38;
    static final int CURL = 39;
    static final int UNCURL = 40;
    static final int COMMA = 41;
    static final int SEMI = 42;
    static final int COLON = 43;
    static final int DOT = 44;
    static final int TOKENS = 6002;

    final Heap heap;
    final Texts texts;
    final Names names;
    final int[] sort = new int[TOKENS];
    final int[] place = new int[TOKENS];
    final int[] gap = new int[TOKENS];
    final int[] worth = new int[TOKENS];
    int bad = -1;
    int tokens = 0;
    int now = 0;
    int deep = 0;
    int wrong = -1;
    int skipped = 0;
    int stop = 0;
    Tree tree = null;

    Reader(Heap heap, Texts texts, Names names) {
      this.heap = heap;
      this.texts = texts;
      this.names = names;
    }

    static boolean isNameByte(int c, boolean start) {
      return Texts.isLetter(c) || c == '_' || !start && Texts.isDigit(c);
    }

    /** The place behind blanks; skipped becomes 1, or 2 if a byte 10 is among them. */
    int behindBlanks(int[] text, int from, int end) {
      int p = from;
      skipped = 0;
      boolean comment = false;
      while (p < end && (comment || text[p] == '#' || Texts.isBlank(text[p]))) {
        if (text[p] == '#') comment = true;
        if (text[p] == 10) comment = false;
        skipped = text[p] == 10 ? 2 : Math.max(skipped, 1);
        p++;
      }
      return p;
    }

    /** Tokens up to the end, or to the first that is wrong within: bad is where. */
    void split(int[] text, int end) {
      tokens = 0;
      bad = -1;
      int p = 0;
      for (int i = 0; i < TOKENS - 1; i++) {
        p = behindBlanks(text, p, end);
        tokens = i + 1;
        place[i] = p;
        gap[i] = skipped;
        worth[i] = 0;
        sort[i] = END;
        if (p >= end) break;
        token(i, text, p, end);
        if (bad >= 0 || sort[i] == BAD) break;
        p = stop;
      }
      now = 0;
      deep = 0;
      wrong = -1;
    }

    void token(int i, int[] text, int p, int end) {
      int c = text[p];
      if (isNameByte(c, true)) {
        nameToken(i, text, p, end);
      } else if (Texts.isDigit(c)) {
        sort[i] = NUM;
        bad = texts.readNumber(text, p, end);
        stop = texts.stop;
        if (bad < 0) worth[i] = heap.keepNumber(texts.value);
      } else if (c == '"') {
        sort[i] = STR;
        bad = texts.readString(text, p + 1, end);
        stop = texts.stop;
        if (bad < 0) worth[i] = names.sym(texts.buf, 0, texts.size);
      } else if (c == '`') {
        sort[i] = STR;
        int q = p + 1;
        while (q < end && text[q] != '`') q++;
        stop = q + 1;
        if (q >= end) bad = end;
        else worth[i] = names.sym(text, p + 1, q - p - 1);
      } else {
        signToken(i, text, p, end);
      }
    }

    void nameToken(int i, int[] text, int p, int end) {
      int q = p;
      while (q < end && isNameByte(text[q], false)) q++;
      stop = q;
      sort[i] = NAME;
      if (q - p > 24) {
        bad = p;
        return;
      }
      worth[i] = names.sym(text, p, q - p);
      for (int w = 0; w < 15; w++) {
        if (names.words[w] == worth[i]) sort[i] = PACKAGE + w;
      }
    }

    void signToken(int i, int[] text, int p, int end) {
      char c = (char) text[p];
      int two = p + 1 < end && text[p + 1] == '=' ? ":=!<>".indexOf(c) : -1;
      int one = "=<>+-*/%|&()[]{},;:.".indexOf(c);
      stop = two >= 0 ? p + 2 : p + 1;
      sort[i] = two >= 0 ? BECOMES + two : one >= 0 ? EQUALS + one : BAD;
    }

    boolean is(int s) {
      return wrong < 0 && sort[now] == s;
    }

    /** Whether a token is next that no blank is ahead of. */
    boolean joined(int s) {
      return is(s) && gap[now] == 0;
    }

    void fail() {
      if (wrong < 0) wrong = place[now];
    }

    void take() {
      if (wrong >= 0) return;
      if (bad >= 0 && now == tokens - 1) wrong = bad;
      else if (now < tokens - 1) now++;
    }

    boolean takes(int s) {
      if (!is(s)) return false;
      take();
      return wrong < 0;
    }

    void need(int s) {
      if (is(s)) take();
      else fail();
    }

    void open() {
      if (deep >= 6) fail();
      deep++;
      take();
    }

    void shut(int s) {
      need(s);
      deep--;
    }

    boolean isBlankName() {
      return worth[now] == names.blank;
    }

    /** A name that is no wildcard: its string. */
    int plainName() {
      if (!is(NAME) || isBlankName()) fail();
      int sym = worth[now];
      take();
      return sym;
    }

    int node(int kind) {
      return tree.add(kind, place[now]);
    }

    /** Names with . between: the node of the path behind the one that is given. */
    int path(int owner, int from) {
      int at = from;
      for (int n = 0; n < 6; n++) {
        int name = node(Tree.NAME);
        tree.a[name] = plainName();
        tree.append(owner, name);
        if (wrong >= 0) return 0;
        at = names.node(at, tree.a[name]);
        if (!joined(DOT)) return at;
        if (n == 5) fail();
        take();
      }
      return at;
    }

    /** A module text as a tree, or null and where it is wrong. */
    Tree readModule(int[] text, int length) {
      split(text, length);
      tree = new Tree(2 * length + 32);
      need(PACKAGE);
      tree.pack = path(node(Tree.NAME), 0);
      tree.root = tree.add(Tree.BODY, 0);
      int list = tree.add(Tree.BODY, 0);
      for (int n = 0; n <= 10 && is(IMPORT); n++) {
        if (n == 10) fail();
        tree.append(list, readImport());
      }
      tree.imports = tree.first[list];
      for (int n = 0; n <= 100 && wrong < 0 && !is(END); n++) {
        if (n == 100) fail();
        deep = 0;
        tree.append(tree.root, readRule());
        tree.rules = n + 1;
      }
      return wrong < 0 ? tree : null;
    }

    Tree readQuery(int[] text, int length) {
      split(text, length);
      tree = new Tree(2 * length + 32);
      tree.root = node(Tree.BODY);
      readLiterals(tree.root, END);
      if (wrong < 0 && !is(END)) fail();
      return wrong < 0 ? tree : null;
    }

    int readImport() {
      int n = node(Tree.IMPORT);
      take();
      if (!is(NAME) || worth[now] != names.input && worth[now] != names.data) fail();
      tree.a[n] = worth[now] == names.data ? 1 : 0;
      take();
      if (!joined(DOT)) fail();
      take();
      tree.ref[n] = path(n, 0);
      tree.c[n] = tree.a[tree.last[n]];
      if (takes(AS)) tree.c[n] = plainName();
      return n;
    }

    /** A part's b is its sort, 8 for a default and 16 for each parameter. */
    int readRule() {
      int n = node(Tree.PART);
      boolean fixed = takes(DEFAULT);
      tree.a[n] = plainName();
      if (wrong >= 0) return n;
      tree.ref[n] = names.node(tree.pack, tree.a[n]);
      if (fixed) {
        need(BECOMES);
        tree.b[n] = 8;
        int branch = newBranch(n, 1);
        tree.append(branch, readConstant());
      } else if (joined(OPEN)) {
        open();
        readParameters(n);
        shut(SHUT);
        readBranches(n);
      } else if (joined(LEFT)) {
        tree.b[n] = 3;
        int branch = newBranch(n, 2);
        open();
        tree.append(branch, readTerm());
        shut(RIGHT);
        need(BECOMES);
        tree.append(branch, readTerm());
        readIf(branch);
      } else if (takes(CONTAINS)) {
        tree.b[n] = 2;
        int branch = newBranch(n, 1);
        tree.append(branch, readTerm());
        readIf(branch);
      } else {
        readBranches(n);
      }
      return n;
    }

    void readParameters(int n) {
      int count = 0;
      do {
        tree.append(n, readTerm());
        count++;
      } while (count < 4 && takes(COMMA));
      tree.b[n] = 1 | count << 4;
    }

    int newBranch(int part, int heads) {
      int branch = node(Tree.BRANCH);
      tree.a[branch] = heads;
      tree.append(part, branch);
      return branch;
    }

    void readBranches(int n) {
      for (int i = 0; i < 9; i++) {
        int branch = newBranch(n, 0);
        boolean value = takes(BECOMES);
        if (value) {
          tree.a[branch] = 1;
          tree.append(branch, readTerm());
        }
        if (!value && !is(IF)) fail();
        readIf(branch);
        if (!is(ELSE)) return;
        if (i == 8) fail();
        take();
      }
    }

    /** Perhaps a BODY; a branch without one has none as its last node. */
    void readIf(int branch) {
      if (!takes(IF)) return;
      int body = node(Tree.BODY);
      if (is(CURL)) {
        open();
        readLiterals(body, UNCURL);
        shut(UNCURL);
      } else {
        tree.append(body, readLiteral());
      }
      tree.append(branch, body);
    }

    private void readLiterals(int body, int close) {
      for (int n = 0; wrong < 0 && n < TOKENS; n++) {
        tree.append(body, readLiteral());
        boolean parted = takes(SEMI);
        if (is(close)) return;
        if (!parted && gap[now] < 2) fail();
      }
    }

    private int readLiteral() {
      int n;
      if (is(SOME)) {
        n = readSome();
      } else if (is(EVERY)) {
        n = readEvery();
      } else if (is(NOT)) {
        n = node(Tree.NOT);
        take();
        tree.append(n, readExpression(0));
      } else {
        n = node(Tree.TEST);
        int left = readExpression(0);
        tree.append(n, left);
        boolean becomes = is(BECOMES);
        if (becomes && tree.kind[left] == Tree.SIGNS) fail();
        if (becomes || is(EQUALS)) {
          tree.kind[n] = becomes ? Tree.ASSIGN : Tree.UNIFY;
          take();
          tree.append(n, readExpression(0));
        }
      }
      if (tree.kind[n] != Tree.SOME) readWiths(n);
      return n;
    }

    private void readWiths(int literal) {
      int list = 0;
      for (int i = 0; i <= 4 && is(WITH); i++) {
        if (i == 4) fail();
        take();
        int w = node(Tree.WITH);
        if (!is(NAME) || worth[now] != names.input && worth[now] != names.data) fail();
        tree.a[w] = worth[now] == names.data ? 1 : 0;
        take();
        int path = node(Tree.NAME);
        if (joined(DOT)) {
          take();
          tree.ref[w] = path(path, 0);
        } else if (tree.a[w] == 1) {
          fail();
        }
        need(AS);
        tree.append(w, readExpression(0));
        if (list == 0) tree.b[literal] = w;
        else tree.next[list] = w;
        list = w;
      }
    }

    private int readSome() {
      int n = node(Tree.SOME);
      take();
      int left = readTerm();
      int right = 0;
      boolean named = tree.kind[left] == Tree.REF && tree.first[left] == 0;
      if (takes(COMMA)) right = readTerm();
      if (is(IN)) {
        tree.kind[n] = Tree.SOMEIN;
        tree.a[n] = right == 0 ? 1 : 2;
        tree.append(n, left);
        tree.append(n, right);
        take();
        tree.append(n, readExpression(0));
        return n;
      }
      boolean second = right == 0 || tree.kind[right] == Tree.REF && tree.first[right] == 0;
      if (!named || !second || tree.a[left] == names.blank) fail();
      if (right != 0 && tree.a[right] == names.blank) fail();
      tree.append(n, asName(left));
      tree.append(n, asName(right));
      for (int i = 0; i < TOKENS && right != 0 && takes(COMMA); i++) {
        int more = node(Tree.NAME);
        tree.a[more] = plainName();
        tree.append(n, more);
      }
      return n;
    }

    int asName(int n) {
      if (n != 0) tree.kind[n] = Tree.NAME;
      return n;
    }

    private int readEvery() {
      int n = node(Tree.EVERY);
      take();
      int count = 0;
      do {
        int name = node(Tree.NAME);
        tree.a[name] = plainName();
        tree.append(n, name);
        count++;
      } while (count < 2 && takes(COMMA));
      tree.a[n] = count;
      need(IN);
      tree.append(n, readExpression(0));
      int body = node(Tree.BODY);
      if (is(CURL)) open();
      else fail();
      readLiterals(body, UNCURL);
      shut(UNCURL);
      tree.append(n, body);
      return n;
    }

    /** From 0 an EXPRESSION, from 2 an ITEM: its term, or a node of terms with signs behind. */
    private int readExpression(int level) {
      int list = node(Tree.SIGNS);
      readLevel(list, level);
      int only = tree.first[list];
      return tree.next[only] == 0 ? only : list;
    }

    private void readLevel(int list, int level) {
      if (level == 5) {
        tree.append(list, readTerm());
        return;
      }
      readLevel(list, level + 1);
      for (int i = 0; i < TOKENS && wrong < 0 && levelOf(sort[now]) == level; i++) {
        int sign = node(Tree.SIGN);
        tree.a[sign] = sort[now];
        take();
        readLevel(list, level + 1);
        tree.append(list, sign);
        if (level == 0) return;
      }
    }

    static int levelOf(int s) {
      if (s == IN || s >= SAME && s <= ATLEAST || s == LESS || s == MORE) return 0;
      if (s == BAR) return 1;
      if (s == AND) return 2;
      if (s == PLUS || s == MINUS) return 3;
      return s == TIMES || s == OVER || s == REST ? 4 : -1;
    }

    private int readTerm() {
      if (is(NAME)) return readReference();
      if (is(OPEN)) {
        int n = node(Tree.PAREN);
        open();
        tree.append(n, readExpression(0));
        shut(SHUT);
        return n;
      }
      if (is(LEFT)) return readArray();
      if (is(CURL)) return readCurls();
      return readScalar();
    }

    int readScalar() {
      int n = node(Tree.CONST);
      tree.a[n] = Heap.NULL;
      if (is(MINUS) && now + 1 < tokens && sort[now + 1] == NUM && gap[now + 1] == 0) {
        take();
        int number = worth[now];
        take();
        if (wrong < 0) tree.a[n] = heap.keepNumber(-heap.number(number));
      } else if (is(NUM) || is(STR)) {
        tree.a[n] = worth[now];
        take();
      } else if (is(TRUE) || is(FALSE) || is(NULL)) {
        tree.a[n] = is(TRUE) ? Heap.TRUE : is(FALSE) ? Heap.FALSE : Heap.NULL;
        take();
      } else {
        fail();
      }
      return n;
    }

    private int readReference() {
      int n = node(Tree.REF);
      tree.a[n] = worth[now];
      boolean callable = !isBlankName();
      int count = 1;
      take();
      for (int i = 0; i < TOKENS; i++) {
        if (joined(DOT)) {
          take();
          int dot = node(Tree.DOT);
          tree.a[dot] = worth[now];
          if (is(NAME) && isBlankName()) callable = false;
          need(NAME);
          tree.append(n, dot);
          count++;
        } else if (joined(LEFT)) {
          int step = node(Tree.AT);
          open();
          tree.append(step, readExpression(0));
          shut(RIGHT);
          tree.append(n, step);
          callable = false;
        } else if (joined(OPEN)) {
          if (!callable || count > 6) fail();
          return readCall(n, count);
        } else {
          return n;
        }
      }
      return n;
    }

    /** The steps of a reference become the names of a call. */
    private int readCall(int n, int count) {
      tree.kind[n] = Tree.CALL;
      tree.b[n] = tree.first[n];
      tree.c[n] = count;
      tree.first[n] = 0;
      open();
      if (is(SHUT)) {
        if (count == 1 && tree.a[n] == names.set) tree.kind[n] = Tree.SET;
      } else {
        tree.append(n, readExpression(0));
        for (int i = 0; i < TOKENS && takes(COMMA); i++) tree.append(n, readExpression(0));
      }
      shut(SHUT);
      return n;
    }

    private int readArray() {
      int n = node(Tree.ARRAY);
      open();
      if (!is(RIGHT)) {
        tree.append(n, readExpression(2));
        if (is(BAR)) {
          readComprehension(n, Tree.ARRAYS, RIGHT);
        } else {
          for (int i = 0; i < TOKENS && takes(COMMA); i++) tree.append(n, readExpression(2));
        }
      }
      shut(RIGHT);
      return n;
    }

    private void readComprehension(int n, int kind, int close) {
      tree.kind[n] = kind;
      take();
      int body = node(Tree.BODY);
      readLiterals(body, close);
      tree.append(n, body);
    }

    private int readCurls() {
      int n = node(Tree.OBJECT);
      open();
      if (!is(UNCURL)) {
        tree.append(n, readExpression(2));
        boolean pairs = is(COLON);
        if (!pairs) tree.kind[n] = Tree.SET;
        else readPairValue(n);
        if (is(BAR)) {
          readComprehension(n, pairs ? Tree.OBJECTS : Tree.SETS, UNCURL);
        } else {
          for (int i = 0; i < TOKENS && takes(COMMA); i++) {
            tree.append(n, readExpression(2));
            if (pairs) readPairValue(n);
          }
        }
      }
      shut(UNCURL);
      return n;
    }

    private void readPairValue(int n) {
      need(COLON);
      tree.append(n, readExpression(2));
    }

    /** A term as behind default. */
    private int readConstant() {
      if (is(OPEN) || is(LEFT) || is(CURL)) return readConstantRow();
      if (!is(NAME) || worth[now] != names.set) return readScalar();
      int n = node(Tree.SET);
      take();
      if (joined(OPEN)) open();
      else fail();
      shut(SHUT);
      return n;
    }

    private int readConstantRow() {
      boolean round = is(OPEN);
      boolean square = is(LEFT);
      int close = round ? SHUT : square ? RIGHT : UNCURL;
      int n = node(round ? Tree.PAREN : square ? Tree.ARRAY : Tree.OBJECT);
      open();
      if (round || !is(close)) {
        tree.append(n, readConstant());
        boolean pairs = close == UNCURL && is(COLON);
        if (close == UNCURL && !pairs) tree.kind[n] = Tree.SET;
        if (pairs) readConstantValue(n);
        for (int i = 0; i < TOKENS && !round && takes(COMMA); i++) {
          tree.append(n, readConstant());
          if (pairs) readConstantValue(n);
        }
      }
      shut(close);
      return n;
    }

    private void readConstantValue(int n) {
      need(COLON);
      tree.append(n, readConstant());
    }
  }

  /** Modules that were checked together: their rules, parts and code, or their fault. */
  static final class Bundle {
    static final int NODE = 0;
    static final int SORT = 1;
    static final int ARITY = 2;
    static final int FIRST = 3;
    static final int PARTS = 4;
    static final int FRAME = 5;
    static final int DEPENDS = 6;
    static final int FIXED = 7;
    static final int WITHS = 8;
    static final int LAST = 9;
    static final int RULE = 10;
    static final int PART = 0;
    static final int MOD = 1;
    static final int NEXT = 2;
    static final int START = 3;
    static final int COUNT = 4;
    static final int OWNER = 5;
    static final int STRIDE = 6;

    final Tree[] mods;
    final int count;
    int rules = 0;
    int parts = 0;
    final int[] rule;
    final int[] part;
    final int[] nodeRule;
    final int[] inner;
    int words = 1;
    int[] reads = null;
    int[] rank = null;
    int[] branch = null;
    int[] code = null;
    int kind = 0;
    int module = NONE;
    int place = NONE;

    Bundle(Tree[] drafts, int n, int nodes) {
      mods = new Tree[n];
      int all = 0;
      for (int m = 0; m < n; m++) {
        mods[m] = drafts[m];
        all += drafts[m].rules;
      }
      count = n;
      rule = new int[all * RULE];
      part = new int[all * STRIDE];
      nodeRule = new int[nodes];
      inner = new int[nodes];
    }

    int of(int r, int what) {
      return rule[r * RULE + what];
    }

    /** The rule at a node of the paths, or -1. */
    int ruleAt(int node) {
      return node >= 0 && node < nodeRule.length ? nodeRule[node] - 1 : -1;
    }

    /** Whether a node is a beginning of a package's path, or it. */
    boolean isInner(int node) {
      return node >= 0 && node < inner.length && inner[node] != 0;
    }

    void fail(int sort, int mod, int at) {
      kind = sort;
      module = mod;
      place = at;
    }

    void failAtRule(int sort, int r) {
      int p = of(r, FIRST) * STRIDE;
      int mod = part[p + MOD];
      fail(sort, mod, mods[mod].at[part[p + PART]]);
    }
  }

  /** Finds what names mean, what rules read, and the faults 1 to 7. */
  static final class Checker {
    static final int VAR = 1;
    static final int INPUT = 2;
    static final int DATA = 3;
    static final int ALIAS = 4;
    static final int RULE = 5;
    static final int BLANK = 6;
    static final int BUILTIN = 1;
    static final int FUNCTION = 2;
    static final int LIST = 6100;
    static final int VARIABLES = 30;

    final Heap heap;
    final Names names;
    Bundle b = null;
    Tree t = null;
    int module = 0;
    final int[] declared = new int[LIST];
    final int[] scopeOf = new int[LIST];
    final int[] placeOf = new int[LIST];
    int count = 0;
    final int[] around = new int[LIST];
    int scopes = 0;
    int badKind = 0;
    int badPlace = 0;
    final int[] bits = new int[16];
    final int[] direct = new int[400 * 16];
    final int[] all = new int[400 * 16];

    Checker(Heap heap, Names names) {
      this.heap = heap;
      this.names = names;
    }

    /** The bundle of a draft, with its fault up to 7. */
    Bundle bundle(Tree[] mods, int n) {
      b = new Bundle(mods, n, names.nodes);
      gather();
      findClash();
      for (int p = 0; p < b.parts && b.kind == 0; p++) {
        scanPart(p);
        if (badKind != 0) b.fail(badKind, module, badPlace);
      }
      if (b.kind == 0) {
        findReads();
        findDepth();
      }
      return b;
    }

    void gather() {
      for (int m = 0; m < b.count; m++) {
        int node = b.mods[m].pack;
        for (int i = 0; i < 8; i++) {
          b.inner[node] = 1;
          node = names.parent[node];
        }
      }
      for (int m = 0; m < b.count; m++) {
        Tree tree = b.mods[m];
        for (int i = tree.first[tree.root]; i != 0; i = tree.next[i]) addPart(m, i);
      }
      b.words = (b.rules + 31) / 32;
    }

    void addPart(int m, int node) {
      int path = b.mods[m].ref[node];
      int p = b.parts;
      int r = b.ruleAt(path);
      b.parts++;
      b.part[p * Bundle.STRIDE + Bundle.PART] = node;
      b.part[p * Bundle.STRIDE + Bundle.MOD] = m;
      b.part[p * Bundle.STRIDE + Bundle.NEXT] = -1;
      if (r < 0) {
        r = b.rules;
        b.rules++;
        b.nodeRule[path] = r + 1;
        b.rule[r * Bundle.RULE + Bundle.NODE] = path;
        b.rule[r * Bundle.RULE + Bundle.FIRST] = p;
        b.rule[r * Bundle.RULE + Bundle.SORT] = -1;
        b.rule[r * Bundle.RULE + Bundle.FIXED] = -1;
      } else {
        b.part[b.of(r, Bundle.LAST) * Bundle.STRIDE + Bundle.NEXT] = p;
      }
      b.rule[r * Bundle.RULE + Bundle.LAST] = p;
      b.rule[r * Bundle.RULE + Bundle.PARTS]++;
      b.part[p * Bundle.STRIDE + Bundle.OWNER] = r;
      int sort = b.mods[m].b[node];
      if (b.of(r, Bundle.SORT) < 0 && (sort & 8) == 0) {
        b.rule[r * Bundle.RULE + Bundle.SORT] = sort & 7;
        b.rule[r * Bundle.RULE + Bundle.ARITY] = sort >> 4;
      }
    }

    void findClash() {
      for (int r = 0; r < b.rules; r++) {
        if (b.of(r, Bundle.SORT) < 0) b.rule[r * Bundle.RULE + Bundle.SORT] = 0;
      }
      int p = 0;
      for (int m = 0; m < b.count; m++) {
        Tree tree = b.mods[m];
        for (int i = tree.imports; i != 0; i = tree.next[i]) {
          if (b.kind == 0 && isClash(tree, i)) b.fail(1, m, tree.at[i]);
        }
        for (; p < b.parts && b.part[p * Bundle.STRIDE + Bundle.MOD] == m; p++) {
          int node = b.part[p * Bundle.STRIDE + Bundle.PART];
          if (b.kind == 0 && isPartClash(tree, p, node)) b.fail(1, m, tree.at[node]);
        }
      }
    }

    boolean isClash(Tree tree, int node) {
      int alias = tree.c[node];
      if (alias == names.input || alias == names.data) return true;
      for (int i = tree.imports; i != node && i != 0; i = tree.next[i]) {
        if (tree.c[i] == alias) return true;
      }
      return b.ruleAt(names.find(tree.pack, alias)) >= 0;
    }

    boolean isPartClash(Tree tree, int p, int node) {
      int sort = tree.b[node];
      int r = b.part[p * Bundle.STRIDE + Bundle.OWNER];
      if (tree.a[node] == names.input || tree.a[node] == names.data) return true;
      if (b.isInner(b.of(r, Bundle.NODE))) return true;
      if (b.of(r, Bundle.SORT) != (sort & 7)) return true;
      if ((sort & 8) == 0) return sort >> 4 != b.of(r, Bundle.ARITY);
      for (int q = b.of(r, Bundle.FIRST); q >= 0 && q < p;
          q = b.part[q * Bundle.STRIDE + Bundle.NEXT]) {
        int mod = b.part[q * Bundle.STRIDE + Bundle.MOD];
        if ((b.mods[mod].b[b.part[q * Bundle.STRIDE + Bundle.PART]] & 8) != 0) return true;
      }
      return false;
    }

    void report(int kind, int place) {
      boolean ahead = badKind == 0 || place < badPlace || place == badPlace && kind < badKind;
      if (!ahead) return;
      badKind = kind;
      badPlace = place;
    }

    void begin(Tree tree, int mod) {
      t = tree;
      module = mod;
      count = 0;
      scopes = 1;
      around[0] = -1;
      badKind = 0;
      badPlace = 0;
    }

    /** What the names of a part mean, and its first fault of 2 to 5. */
    void scanPart(int p) {
      int mod = b.part[p * Bundle.STRIDE + Bundle.MOD];
      int node = b.part[p * Bundle.STRIDE + Bundle.PART];
      begin(b.mods[mod], mod);
      for (int i = t.first[node]; i != 0; i = t.next[i]) {
        if (t.kind[i] == Tree.BRANCH) declareAll(i, newScope(i, 0));
        else declarePattern(i, 0);
      }
      checkDeclared();
      for (int i = t.first[node]; i != 0; i = t.next[i]) {
        if (t.kind[i] == Tree.BRANCH) resolveAll(i, t.res[i]);
        else resolvePattern(i, 0);
      }
    }

    void scanQuery(Bundle bundle, Tree tree) {
      b = bundle;
      begin(tree, -1);
      declareAll(t.root, newScope(t.root, 0));
      checkDeclared();
      resolveAll(t.root, t.res[t.root]);
      if (badKind == 0) findNested();
    }

    int newScope(int node, int up) {
      int s = scopes;
      if (s >= LIST) return 0;
      scopes++;
      around[s] = up;
      t.res[node] = s;
      return s;
    }

    void addVariable(int node, int scope) {
      t.res[node] = VAR;
      t.ref[node] = count;
      if (count >= LIST) return;
      declared[count] = t.a[node];
      scopeOf[count] = scope;
      placeOf[count] = t.at[node];
      count++;
    }

    private void declareAll(int n, int scope) {
      for (int i = t.first[n]; i != 0; i = t.next[i]) declare(i, scope);
    }

    private void declare(int n, int scope) {
      int kind = t.kind[n];
      int left = kind == Tree.ASSIGN ? 1 : kind == Tree.SOMEIN ? t.a[n] : 0;
      if (kind == Tree.SOME) {
        for (int i = t.first[n]; i != 0; i = t.next[i]) addVariable(i, scope);
      } else if (kind == Tree.EVERY) {
        declareEvery(n, scope);
      } else if (t.isComprehension(n)) {
        declareAll(n, newScope(n, scope));
      } else {
        for (int i = t.first[n]; i != 0; i = t.next[i]) {
          if (left > 0) declarePattern(i, scope);
          else declare(i, scope);
          left--;
        }
      }
      if (kind < Tree.SOME || kind > Tree.ASSIGN) return;
      for (int w = t.b[n]; w != 0; w = t.next[w]) declareAll(w, scope);
    }

    private void declareEvery(int n, int scope) {
      int inner = newScope(n, scope);
      for (int i = t.first[n]; i != 0; i = t.next[i]) {
        if (t.kind[i] == Tree.NAME) addVariable(i, inner);
        else declare(i, t.kind[i] == Tree.BODY ? inner : scope);
      }
    }

    private void declarePattern(int n, int scope) {
      if (t.isPattern(n)) {
        addPattern(n, scope);
      } else {
        report(4, t.at[n]);
        declare(n, scope);
      }
    }

    private void addPattern(int n, int scope) {
      if (t.kind[n] == Tree.REF) {
        t.res[n] = BLANK;
        if (t.a[n] != names.blank) addVariable(n, scope);
      } else if (t.kind[n] == Tree.ARRAY) {
        for (int i = t.first[n]; i != 0; i = t.next[i]) addPattern(i, scope);
      } else if (t.kind[n] == Tree.OBJECT) {
        for (int i = t.first[n]; i != 0; i = t.next[t.next[i]]) addPattern(t.next[i], scope);
      }
    }

    boolean isAround(int outer, int scope) {
      int s = scope;
      for (int i = 0; i < LIST && s > outer; i++) s = around[s];
      return s == outer;
    }

    void checkDeclared() {
      for (int i = 0; i < count; i++) {
        int sym = declared[i];
        boolean bad = i == VARIABLES || sym == names.input || sym == names.data
            || aliasOf(sym) != 0 || ruleOf(sym) >= 0;
        for (int j = 0; j < count && !bad; j++) {
          bad = declared[j] == sym && j != i && (j < i || scopeOf[j] != scopeOf[i])
              && isAround(scopeOf[j], scopeOf[i]);
        }
        if (bad) report(3, placeOf[i]);
      }
    }

    /** The import of an alias in this module, or 0. */
    int aliasOf(int sym) {
      if (module < 0) return 0;
      for (int i = t.imports; i != 0; i = t.next[i]) {
        if (t.c[i] == sym) return i;
      }
      return 0;
    }

    /** The rule of this package by its name, or -1. */
    int ruleOf(int sym) {
      return module < 0 ? -1 : b.ruleAt(names.find(t.pack, sym));
    }

    int variable(int sym, int scope) {
      for (int i = 0; i < count; i++) {
        if (declared[i] == sym && isAround(scopeOf[i], scope)) return i;
      }
      return -1;
    }

    private void resolveAll(int n, int scope) {
      for (int i = t.first[n]; i != 0; i = t.next[i]) resolve(i, scope);
    }

    private void resolve(int n, int scope) {
      int kind = t.kind[n];
      if (kind == Tree.REF) {
        resolveName(n, scope);
        for (int i = t.first[n]; i != 0; i = t.next[i]) resolveStep(t.first[i], scope);
      } else if (kind == Tree.UNIFY) {
        for (int i = t.first[n]; i != 0; i = t.next[i]) resolveSide(i, scope);
      } else if (kind == Tree.SOMEIN || kind == Tree.ASSIGN) {
        int left = kind == Tree.ASSIGN ? 1 : t.a[n];
        for (int i = t.first[n]; i != 0; i = t.next[i]) {
          if (left > 0) resolvePattern(i, scope);
          else resolve(i, scope);
          left--;
        }
      } else if (kind == Tree.EVERY) {
        for (int i = t.first[n]; i != 0; i = t.next[i]) {
          if (t.kind[i] != Tree.NAME) resolve(i, t.kind[i] == Tree.BODY ? t.res[n] : scope);
        }
      } else if (kind != Tree.SOME) {
        if (kind == Tree.CALL) resolveCall(n);
        resolveAll(n, t.isComprehension(n) ? t.res[n] : scope);
      }
      if (kind < Tree.SOME || kind > Tree.ASSIGN) return;
      for (int w = t.b[n]; w != 0; w = t.next[w]) {
        if (t.a[w] == 1 && isBadTarget(t.ref[w])) report(5, t.at[w]);
        resolveAll(w, scope);
      }
    }

    private void resolveStep(int n, int scope) {
      if (n == 0) return;
      if (t.isName(n, names.blank)) t.res[n] = BLANK;
      else resolve(n, scope);
    }

    private void resolvePattern(int n, int scope) {
      if (!t.isPattern(n)) resolve(n, scope);
    }

    private void resolveSide(int n, int scope) {
      if (t.isName(n, names.blank)) {
        t.res[n] = BLANK;
      } else if (t.kind[n] == Tree.ARRAY) {
        for (int i = t.first[n]; i != 0; i = t.next[i]) resolveSide(i, scope);
      } else if (t.kind[n] == Tree.OBJECT) {
        for (int i = t.first[n]; i != 0; i = t.next[t.next[i]]) {
          resolve(i, scope);
          resolveSide(t.next[i], scope);
        }
      } else {
        resolve(n, scope);
      }
    }

    void resolveName(int n, int scope) {
      int sym = t.a[n];
      int v = variable(sym, scope);
      int alias = aliasOf(sym);
      int r = ruleOf(sym);
      t.res[n] = 0;
      if (sym == names.blank) {
        report(2, t.at[n]);
      } else if (v >= 0) {
        t.res[n] = VAR;
        t.ref[n] = v;
      } else if (sym == names.input) {
        t.res[n] = INPUT;
      } else if (sym == names.data) {
        t.res[n] = DATA;
      } else if (alias != 0) {
        t.res[n] = ALIAS;
        t.ref[n] = alias;
      } else if (r >= 0) {
        t.res[n] = RULE;
        t.ref[n] = r;
      } else {
        report(2, t.at[n]);
      }
    }

    void resolveCall(int n) {
      int operands = 0;
      for (int i = t.first[n]; i != 0; i = t.next[i]) operands++;
      int r = functionOf(n);
      int node = names.find(0, t.a[n]);
      for (int d = t.b[n]; d != 0 && node >= 0; d = t.next[d]) node = names.find(node, t.a[d]);
      int built = node >= 0 && node < names.builtin.length ? names.builtin[node] - 1 : -1;
      int takes = r >= 0 ? b.of(r, Bundle.ARITY) : built >= 0 ? names.arity[built] : -1;
      t.res[n] = r >= 0 ? FUNCTION : BUILTIN;
      t.ref[n] = r >= 0 ? r : built;
      if (takes != operands) report(2, t.at[n]);
    }

    /** The function that a call is of, or -1. */
    int functionOf(int n) {
      int alias = aliasOf(t.a[n]);
      int own = t.c[n] == 1 ? ruleOf(t.a[n]) : -1;
      if (own >= 0 && b.of(own, Bundle.SORT) == 1) return own;
      int node = -1;
      if (t.a[n] == names.data) node = 0;
      else if (alias != 0 && t.a[alias] == 1) node = t.ref[alias];
      for (int d = t.b[n]; d != 0 && node >= 0; d = t.next[d]) node = names.find(node, t.a[d]);
      int r = b.ruleAt(node);
      return r >= 0 && b.of(r, Bundle.SORT) == 1 ? r : -1;
    }

    boolean isBadTarget(int node) {
      if (b.isInner(node)) return true;
      for (int n = names.parent[node]; n != 0; n = names.parent[n]) {
        if (b.ruleAt(n) >= 0) return true;
      }
      return false;
    }

    void clearBits() {
      for (int i = 0; i < bits.length; i++) bits[i] = 0;
    }

    void mark(int r) {
      bits[r >> 5] |= 1 << (r & 31);
    }

    /** Marks what a node reads; plain: but not what is in literals with with. */
    private void collect(int n, boolean plain) {
      int kind = t.kind[n];
      boolean withs = kind >= Tree.SOME && kind <= Tree.ASSIGN && t.b[n] != 0;
      if (kind == Tree.REF) markReference(n);
      if (kind == Tree.CALL && t.res[n] == FUNCTION) mark(t.ref[n]);
      if (!plain || !withs) collectAll(n, plain);
      if (!withs) return;
      for (int w = t.b[n]; w != 0; w = t.next[w]) collectAll(w, plain);
    }

    private void collectAll(int n, boolean plain) {
      for (int i = t.first[n]; i != 0; i = t.next[i]) collect(i, plain);
    }

    void markReference(int n) {
      int res = t.res[n];
      int node = res == DATA ? 0 : -1;
      if (res == RULE) node = b.of(t.ref[n], Bundle.NODE);
      if (res == ALIAS && t.a[t.ref[n]] == 1) node = t.ref[t.ref[n]];
      for (int up = node; up > 0; up = names.parent[up]) {
        if (b.ruleAt(up) >= 0) mark(b.ruleAt(up));
      }
      for (int i = t.first[n]; i != 0 && node >= 0; i = t.next[i]) {
        int sym = t.a[i];
        if (t.kind[i] == Tree.AT) {
          int e = t.first[i];
          if (t.kind[e] != Tree.CONST || heap.kind(t.a[e]) != Heap.STRING) break;
          sym = t.a[e];
        }
        node = names.find(node, sym);
        if (b.ruleAt(node) >= 0) mark(b.ruleAt(node));
      }
      for (int r = 0; r < b.rules && node >= 0; r++) {
        if (names.within(b.of(r, Bundle.NODE), node)) mark(r);
      }
    }

    void findReads() {
      b.reads = new int[b.rules * b.words];
      for (int r = 0; r < b.rules; r++) {
        readRule(r, true);
        for (int i = 0; i < b.words; i++) b.reads[r * b.words + i] = bits[i];
        readRule(r, false);
        for (int i = 0; i < b.words; i++) {
          direct[r * 16 + i] = bits[i];
          all[r * 16 + i] = bits[i];
        }
      }
      for (int k = 0; k < b.rules; k++) {
        for (int r = 0; r < b.rules; r++) {
          if (!isSet(all, r, k)) continue;
          for (int i = 0; i < b.words; i++) all[r * 16 + i] |= all[k * 16 + i];
        }
      }
      for (int r = b.rules - 1; r >= 0; r--) {
        int n = 0;
        for (int i = 0; i < b.words; i++) n += Integer.bitCount(all[r * 16 + i]);
        b.rule[r * Bundle.RULE + Bundle.DEPENDS] = n;
        if (isSet(all, r, r)) b.failAtRule(6, r);
      }
    }

    void readRule(int r, boolean plain) {
      clearBits();
      for (int p = b.of(r, Bundle.FIRST); p >= 0; p = b.part[p * Bundle.STRIDE + Bundle.NEXT]) {
        t = b.mods[b.part[p * Bundle.STRIDE + Bundle.MOD]];
        collectAll(b.part[p * Bundle.STRIDE + Bundle.PART], plain);
      }
    }

    static boolean isSet(int[] rows, int r, int k) {
      return (rows[r * 16 + (k >> 5)] >>> (k & 31) & 1) != 0;
    }

    /** An order in which each rule is behind all that it reads; rows of rules that are too long. */
    void findDepth() {
      if (b.kind != 0) return;
      b.rank = new int[b.rules];
      int[] row = new int[b.rules];
      for (int n = 0; n < b.rules; n++) {
        for (int r = 0; r < b.rules; r++) {
          int length = row[r] == 0 ? rowOf(r, row) : 0;
          if (length == 0) continue;
          row[r] = length;
          b.rank[n] = r;
          break;
        }
        findWiths(b.rank[n]);
      }
      for (int r = b.rules - 1; r >= 0; r--) {
        if (row[r] > 12) b.failAtRule(7, r);
      }
    }

    /** The longest row of rules from a rule on, 0 if one that it reads isn't known yet. */
    int rowOf(int r, int[] row) {
      int most = 0;
      for (int k = 0; k < b.rules; k++) {
        if (!isSet(direct, r, k)) continue;
        if (row[k] == 0) return 0;
        most = Math.max(most, row[k]);
      }
      return most + 1;
    }

    void findWiths(int r) {
      int most = 0;
      for (int p = b.of(r, Bundle.FIRST); p >= 0; p = b.part[p * Bundle.STRIDE + Bundle.NEXT]) {
        t = b.mods[b.part[p * Bundle.STRIDE + Bundle.MOD]];
        most = Math.max(most, withsIn(b.part[p * Bundle.STRIDE + Bundle.PART]));
      }
      b.rule[r * Bundle.RULE + Bundle.WITHS] = most;
    }

    /** How many literals with with could be within one another. */
    private int withsIn(int n) {
      int kind = t.kind[n];
      int most = 0;
      if (kind == Tree.REF) {
        clearBits();
        markReference(n);
        for (int r = 0; r < b.rules; r++) {
          if ((bits[r >> 5] >>> (r & 31) & 1) != 0) most = Math.max(most, b.of(r, Bundle.WITHS));
        }
      }
      if (kind == Tree.CALL && t.res[n] == FUNCTION) most = b.of(t.ref[n], Bundle.WITHS);
      for (int i = t.first[n]; i != 0; i = t.next[i]) most = Math.max(most, withsIn(i));
      if (kind < Tree.SOME || kind > Tree.ASSIGN || t.b[n] == 0) return most;
      most++;
      for (int w = t.b[n]; w != 0; w = t.next[w]) {
        most = Math.max(most, withsIn(t.first[w]));
      }
      return most;
    }

    void findNested() {
      for (int i = t.first[t.root]; i != 0 && badKind == 0; i = t.next[i]) {
        if (withsIn(i) > 3) report(7, t.at[i]);
      }
    }
  }

  /** Puts literals in order, finds the faults 8 and 9, and writes the code of rules and queries. */
  static final class Coder {
    static final int TRY = 1;
    static final int GREAT = 2;
    static final int REFVAR = 3;
    static final int REFINPUT = 4;
    static final int REFDATA = 5;
    static final int STEP = 6;
    static final int EACH = 7;
    static final int VALUE = 8;
    static final int ROW = 9;
    static final int SIGN = 10;
    static final int BUILTIN = 11;
    static final int FUNCTION = 12;
    static final int GATHER = 13;
    static final int ADD = 14;
    static final int NOT = 15;
    static final int NOTHIT = 16;
    static final int EVERY = 17;
    static final int EVERYHIT = 18;
    static final int SOMEIN = 19;
    static final int TEST = 20;
    static final int EQUAL = 21;
    static final int MOVE = 22;
    static final int SPLIT = 23;
    static final int ISOBJECT = 24;
    static final int KEY = 25;
    static final int KEYS = 26;
    static final int WITH = 27;
    static final int WITHEND = 28;
    static final int ENTER = 29;
    static final int GIVE = 30;
    static final int GIVEPAIR = 31;
    static final int FIXED = 32;
    static final int RESULT = 33;
    static final int CODE = 80000;
    static final int FIRST = 5;

    final Heap heap;
    final Names names;
    final Checker checker;
    Bundle b = null;
    Tree t = null;
    final int[] code = new int[CODE];
    int size = 0;
    int registers = 0;
    int owner = 0;
    int known = 0;
    int scope = 0;
    int badKind = 0;
    int badPlace = 0;
    final int[] ops = new int[6100];
    int used = 0;

    Coder(Heap heap, Names names, Checker checker) {
      this.heap = heap;
      this.names = names;
      this.checker = checker;
    }

    /** The faults 8 and 9 of a bundle without others. */
    void finish(Bundle bundle) {
      b = bundle;
      for (int pass = 8; pass <= 9; pass++) {
        for (int r = 0; r < b.rules && b.kind == 0; r++) {
          int p = b.of(r, Bundle.FIRST);
          for (; p >= 0 && b.kind == 0; p = b.part[p * Bundle.STRIDE + Bundle.NEXT]) {
            badKind = 0;
            checker.scanPart(p);
            t = checker.t;
            int node = b.part[p * Bundle.STRIDE + Bundle.PART];
            if (pass == 9) checkKinds(node);
            else arrangePart(node);
            if (badKind != 0) b.fail(badKind, checker.module, badPlace);
          }
        }
      }
    }

    void arrangePart(int node) {
      for (int i = t.first[node]; i != 0 && badKind == 0; i = t.next[i]) {
        if (t.kind[i] == Tree.BRANCH) arrange(i, t.res[i]);
      }
    }

    /** The fault of a query, which the checker has scanned. */
    int checkQuery(Bundle bundle, Tree tree) {
      b = bundle;
      t = tree;
      checker.scanQuery(bundle, tree);
      badKind = checker.badKind;
      badPlace = checker.badPlace;
      if (badKind == 0) arrangeBody(t.root, t.root, t.res[t.root]);
      if (badKind == 0) checkKinds(t.root);
      return badKind;
    }

    void report(int kind, int place) {
      if (badKind != 0) return;
      badKind = kind;
      badPlace = place;
    }

    /** The variables of the scopes around one. */
    int around(int scope) {
      int mask = 0;
      for (int v = 0; v < checker.count && v < 31; v++) {
        if (checker.scopeOf[v] < scope) mask |= 1 << v;
      }
      return mask;
    }

    int bodyOf(int node) {
      int body = 0;
      for (int i = t.first[node]; i != 0; i = t.next[i]) {
        if (t.kind[i] == Tree.BODY) body = i;
      }
      return body;
    }

    private void arrange(int node, int inner) {
      arrangeBody(node, bodyOf(node), inner);
    }

    /** A body, then those within it, then the terms that are looked at behind it. */
    private void arrangeBody(int node, int body, int inner) {
      int wasKnown = known;
      int wasScope = scope;
      known = around(inner);
      scope = inner;
      for (int i = t.first[node]; i != 0; i = t.next[i]) {
        if (t.kind[i] == Tree.NAME && t.kind[node] == Tree.EVERY) known |= 1 << t.ref[i];
      }
      if (body != 0) putInOrder(body);
      boolean heads = node != body && t.kind[node] != Tree.EVERY;
      for (int i = t.first[node]; heads && i != 0 && badKind == 0; i = t.next[i]) {
        if (i != body) arrangeWithin(i);
      }
      for (int i = t.first[body]; body != 0 && i != 0 && badKind == 0; i = t.next[i]) {
        arrangeWithin(i);
      }
      for (int i = t.first[node]; heads && i != 0 && badKind == 0; i = t.next[i]) {
        if (i != body && !isReady(i, true)) report(8, t.at[i]);
      }
      known = wasKnown;
      scope = wasScope;
    }

    private void arrangeWithin(int n) {
      if (badKind != 0) return;
      int kind = t.kind[n];
      if (t.isComprehension(n)) {
        arrange(n, t.res[n]);
      } else {
        for (int i = t.first[n]; i != 0; i = t.next[i]) {
          if (t.kind[i] == Tree.BODY) arrange(n, t.res[n]);
          else arrangeWithin(i);
        }
      }
      if (kind < Tree.SOME || kind > Tree.ASSIGN) return;
      for (int w = t.b[n]; w != 0; w = t.next[w]) arrangeWithin(w);
    }

    /** The order stands in last; c of a literal is 0 until it has its place. */
    void putInOrder(int body) {
      int tail = body;
      int start = t.first[body];
      for (int i = start; i != 0; i = t.next[i]) t.c[i] = 0;
      for (int n = 0; n < t.size && start != 0; n++) {
        int found = 0;
        for (int i = start; i != 0 && found == 0; i = t.next[i]) {
          if (t.c[i] != 0) continue;
          int was = known;
          if (isReadyLiteral(i)) {
            found = i;
            t.c[i] = Math.max(t.c[i], 1);
          } else {
            known = was;
            t.c[i] = 0;
          }
        }
        if (found == 0) {
          report(8, t.at[start]);
          return;
        }
        t.last[tail] = found;
        tail = found;
        while (start != 0 && t.c[start] != 0) start = t.next[start];
      }
      t.last[tail] = 0;
      for (int i = t.first[body]; i != 0; i = t.next[i]) {
        for (int v = t.first[i]; v != 0 && t.kind[i] == Tree.SOME; v = t.next[v]) {
          if ((known >>> t.ref[v] & 1) == 0) report(8, t.at[i]);
        }
      }
    }

    boolean isReadyLiteral(int n) {
      for (int w = t.b[n]; w != 0; w = t.next[w]) {
        if (!isReady(t.first[w], true)) return false;
      }
      int e = t.first[n];
      switch (t.kind[n]) {
        case Tree.SOME:
          return true;
        case Tree.UNIFY:
          return isReadyUnify(n, e, t.next[e]);
        case Tree.SOMEIN:
        case Tree.ASSIGN: {
          int left = t.kind[n] == Tree.ASSIGN ? 1 : t.a[n];
          int mask = 0;
          for (int i = 0; i < left; i++) {
            mask |= patternMask(e);
            e = t.next[e];
          }
          if (!isReady(e, false)) return false;
          known |= mask;
          return true;
        }
        case Tree.EVERY: {
          for (int i = 0; i < t.a[n]; i++) e = t.next[e];
          return isReady(e, true) && (usedFrom(t.next[e], t.res[n]) & ~known) == 0;
        }
        default:
          return isReady(e, t.kind[n] == Tree.NOT);
      }
    }

    /** c becomes 1 where the left side is the first one, 2 where the right one is. */
    boolean isReadyUnify(int n, int left, int right) {
      int was = known;
      t.c[n] = 1;
      if (isReady(left, false) && isMatching(right)) return true;
      known = was;
      t.c[n] = 2;
      return isReady(right, false) && isMatching(left);
    }

    private int patternMask(int n) {
      int kind = t.kind[n];
      if (kind == Tree.REF) return t.res[n] == Checker.VAR ? 1 << t.ref[n] : 0;
      int mask = 0;
      if (kind != Tree.ARRAY && kind != Tree.OBJECT) return 0;
      for (int i = t.first[n]; i != 0; i = t.next[i]) mask |= patternMask(i);
      return mask;
    }

    /** The variables of scopes around one that are in a node. */
    private int usedFrom(int n, int inner) {
      int mask = 0;
      boolean variable = t.kind[n] == Tree.REF && t.res[n] == Checker.VAR;
      if (variable && checker.scopeOf[t.ref[n]] < inner) mask = 1 << t.ref[n];
      for (int i = t.first[n]; i != 0; i = t.next[i]) mask |= usedFrom(i, inner);
      if (t.kind[n] < Tree.SOME || t.kind[n] > Tree.ASSIGN) return mask;
      for (int w = t.b[n]; w != 0; w = t.next[w]) mask |= usedFrom(w, inner);
      return mask;
    }

    private boolean isReady(int n, boolean closed) {
      if (t.isComprehension(n)) return (usedFrom(n, t.res[n]) & ~known) == 0;
      if (t.kind[n] == Tree.REF) {
        if (t.res[n] == Checker.BLANK) return false;
        if (t.res[n] == Checker.VAR && (known >>> t.ref[n] & 1) == 0) return false;
        for (int i = t.first[n]; i != 0; i = t.next[i]) {
          if (t.kind[i] == Tree.AT && !isReadyStep(t.first[i], closed)) return false;
        }
        return true;
      }
      for (int i = t.first[n]; i != 0; i = t.next[i]) {
        if (!isReady(i, closed)) return false;
      }
      return true;
    }

    private boolean isReadyStep(int e, boolean closed) {
      if (t.kind[e] == Tree.REF && t.first[e] == 0) {
        if (t.res[e] == Checker.BLANK) return true;
        if (t.res[e] == Checker.VAR && (known >>> t.ref[e] & 1) == 0) {
          if (closed || checker.scopeOf[t.ref[e]] != scope) return false;
          known |= 1 << t.ref[e];
          return true;
        }
      }
      return isReady(e, closed);
    }

    private boolean isMatching(int n) {
      if (t.kind[n] == Tree.REF && t.first[n] == 0) {
        if (t.res[n] == Checker.VAR) known |= 1 << t.ref[n];
        return true;
      }
      if (t.kind[n] == Tree.ARRAY) {
        for (int i = t.first[n]; i != 0; i = t.next[i]) {
          if (!isMatching(i)) return false;
        }
        return true;
      }
      if (t.kind[n] == Tree.OBJECT) {
        for (int i = t.first[n]; i != 0; i = t.next[t.next[i]]) {
          if (!isReady(i, false) || !isMatching(t.next[i])) return false;
        }
        return true;
      }
      return isReady(n, false);
    }

    private void checkKinds(int n) {
      boolean built = t.kind[n] == Tree.CALL && t.res[n] == Checker.BUILTIN;
      int at = built && t.ref[n] >= 0 ? names.kinds[t.ref[n]] : -1;
      for (int i = t.first[n]; i != 0 && badKind == 0; i = t.next[i]) {
        if (at >= 0 && t.isConstant(i) && !takes(Names.BUILTINS.charAt(at), kindOf(i))) {
          report(9, t.at[i]);
        }
        checkKinds(i);
        if (at >= 0 && at < Names.BUILTINS.length() - 1) at++;
      }
      if (t.kind[n] < Tree.SOME || t.kind[n] > Tree.ASSIGN) return;
      for (int w = t.b[n]; w != 0; w = t.next[w]) checkKinds(w);
    }

    int kindOf(int constant) {
      int n = constant;
      while (t.kind[n] == Tree.PAREN) n = t.first[n];
      if (t.kind[n] == Tree.CONST) return heap.kind(t.a[n]);
      if (t.kind[n] == Tree.ARRAY) return Heap.ARRAY;
      return t.kind[n] == Tree.SET ? Heap.SET : Heap.OBJECT;
    }

    static boolean takes(char letter, int kind) {
      if (letter == 'c') return kind == Heap.ARRAY || kind == Heap.SET;
      if (letter == 'x') return true;
      if (letter == 'y') return kind > Heap.NUMBER;
      if (letter == 'w') return kind == Heap.NUMBER;
      return kind == Heap.NUMBER + "nsaot".indexOf(letter);
    }

    void put(int value) {
      if (size < CODE) code[size] = value;
      if (size < CODE - 1) size++;
    }

    void putTwo(int op, int x) {
      put(op);
      put(x);
    }

    void putThree(int op, int x, int y) {
      put(op);
      put(x);
      put(y);
    }

    void putFour(int op, int x, int y, int z) {
      put(op);
      put(x);
      put(y);
      put(z);
    }

    int registers(int n) {
      int r = registers;
      registers += n;
      return r;
    }

    void encode() {
      size = 0;
      int[] starts = new int[b.parts * 9 + 1];
      int n = 0;
      for (int p = 0; p < b.parts; p++) {
        int at = p * Bundle.STRIDE;
        b.part[at + Bundle.START] = n;
        checker.scanPart(p);
        t = checker.t;
        owner = b.part[at + Bundle.OWNER];
        registers = FIRST + checker.count;
        int operand = 1;
        int node = b.part[at + Bundle.PART];
        int branches = 0;
        starts[n] = size;
        for (int i = t.first[node]; i != 0; i = t.next[i]) {
          if (t.kind[i] != Tree.BRANCH) {
            if (operand == 1) known = 0;
            match(i, operand);
            operand++;
          } else {
            if (branches > 0) starts[n + branches] = size;
            branch(node, i, branches == 0);
            branches++;
          }
        }
        if ((t.b[node] & 8) != 0) branches = 0;
        b.part[at + Bundle.COUNT] = branches;
        n += branches;
        setFrame(node);
      }
      b.branch = Arrays.copyOf(starts, n + 1);
      b.code = Arrays.copyOf(code, size);
    }

    /** A default has no branches of its own: its code stands with the rule. */
    void setFrame(int node) {
      int at = owner * Bundle.RULE;
      b.rule[at + Bundle.FRAME] = Math.max(b.rule[at + Bundle.FRAME], registers);
    }

    void branch(int part, int node, boolean first) {
      int sort = t.b[part];
      known = around(t.res[node]);
      if ((sort & 8) != 0) {
        b.rule[owner * Bundle.RULE + Bundle.FIXED] = size;
        putTwo(FIXED, expression(t.first[node]));
        return;
      }
      if (first) put(ENTER);
      int body = bodyOf(node);
      if (body != 0) literals(body);
      int head = t.first[node];
      if (t.a[node] == 2) {
        int key = expression(head);
        putThree(GIVEPAIR, key, expression(t.next[head]));
      } else {
        putTwo(GIVE, t.a[node] == 0 ? -Heap.TRUE : expression(head));
      }
    }

    /** The code of a query that is checked: its registers. */
    int query(Tree tree) {
      t = tree;
      size = 0;
      owner = -1;
      registers = FIRST + checker.count;
      known = 0;
      literals(t.root);
      int own = 0;
      for (int v = 0; v < checker.count; v++) {
        if (checker.scopeOf[v] == t.res[t.root]) own++;
      }
      putTwo(RESULT, own);
      for (int v = 0; v < checker.count; v++) {
        if (checker.scopeOf[v] == t.res[t.root]) put(FIRST + v);
      }
      return registers;
    }

    private void literals(int body) {
      for (int i = t.last[body]; i != 0; i = t.last[i]) literal(i);
    }

    private void literal(int n) {
      putTwo(TRY, owner);
      int was = t.b[n] == 0 ? 0 : with(n);
      int e = t.first[n];
      switch (t.kind[n]) {
        case Tree.SOME:
          break;
        case Tree.SOMEIN:
          someIn(n);
          break;
        case Tree.ASSIGN:
          match(e, expression(t.next[e]));
          break;
        case Tree.UNIFY: {
          boolean leftFirst = t.c[n] == 1;
          int value = expression(leftFirst ? e : t.next[e]);
          match(leftFirst ? t.next[e] : e, value);
          break;
        }
        case Tree.NOT: {
          int flag = registers(1);
          putThree(NOT, flag, 0);
          int resume = size - 1;
          int value = expression(e);
          putThree(NOTHIT, value, flag);
          code[resume] = size;
          break;
        }
        case Tree.EVERY:
          every(n);
          break;
        default:
          putTwo(TEST, expression(e));
      }
      if (was != 0) putTwo(WITHEND, was);
    }

    /** The scope of a literal: the register in which the one around it is kept. */
    private int with(int n) {
      int base = used;
      int targets = 0;
      for (int w = t.b[n]; w != 0; w = t.next[w]) {
        int value = expression(t.first[w]);
        keep(value);
        targets++;
      }
      int was = registers(1);
      putThree(WITH, was, targets);
      int i = base;
      for (int w = t.b[n]; w != 0; w = t.next[w]) {
        int r = t.a[w] == 1 ? b.ruleAt(t.ref[w]) : -1;
        putThree(r >= 0 ? 2 : t.a[w], r >= 0 ? r : t.ref[w], ops[i]);
        i++;
      }
      used = base;
      checker.t = t;
      checker.clearBits();
      checker.collectAll(n, true);
      for (int k = 0; k < b.words; k++) put(checker.bits[k]);
      return was;
    }

    void keep(int operand) {
      if (used < ops.length) {
        ops[used] = operand;
        used++;
      }
    }

    private void someIn(int n) {
      int key = t.a[n] == 2 ? t.first[n] : 0;
      int value = key == 0 ? t.first[n] : t.next[key];
      int row = expression(t.next[value]);
      int r = registers(2);
      putFour(SOMEIN, row, key == 0 ? -1 : r, r + 1);
      if (key != 0) match(key, r);
      match(value, r + 1);
    }

    private void every(int n) {
      int name = t.first[n];
      int last = t.a[n] == 2 ? t.next[name] : name;
      int row = expression(t.next[last]);
      int flag = registers(1);
      putFour(EVERY, row, t.a[n] == 2 ? FIRST + t.ref[name] : -1, FIRST + t.ref[last]);
      putTwo(flag, 0);
      int resume = size - 1;
      int was = known;
      known |= 1 << t.ref[name] | 1 << t.ref[last];
      literals(bodyOf(n));
      known = was;
      putTwo(EVERYHIT, flag);
      code[resume] = size;
    }

    private void match(int n, int value) {
      int kind = t.kind[n];
      if (kind == Tree.REF && t.first[n] == 0 && t.res[n] == Checker.BLANK) return;
      if (kind == Tree.REF && t.first[n] == 0 && t.res[n] == Checker.VAR) {
        boolean is = (known >>> t.ref[n] & 1) != 0;
        putThree(is ? EQUAL : MOVE, FIRST + t.ref[n], value);
        known |= 1 << t.ref[n];
      } else if (kind == Tree.ARRAY) {
        int parts = 0;
        for (int i = t.first[n]; i != 0; i = t.next[i]) parts++;
        int r = registers(parts);
        putFour(SPLIT, value, parts, r);
        for (int i = t.first[n]; i != 0; i = t.next[i]) {
          match(i, r);
          r++;
        }
      } else if (kind == Tree.OBJECT) {
        matchObject(n, value);
      } else {
        putThree(EQUAL, expression(n), value);
      }
    }

    private void matchObject(int n, int value) {
      int keys = 0;
      for (int i = t.first[n]; i != 0; i = t.next[t.next[i]]) keys++;
      int r = registers(2 * keys);
      putTwo(ISOBJECT, value);
      int k = 0;
      for (int i = t.first[n]; i != 0; i = t.next[t.next[i]]) {
        int key = expression(i);
        putFour(KEY, value, key, r + keys + k);
        put(r + k);
        match(t.next[i], r + keys + k);
        k++;
      }
      putFour(KEYS, value, keys, r);
    }

    /** Writes an expression: the register of its value, or below 0 a constant. */
    private int expression(int n) {
      switch (t.kind[n]) {
        case Tree.CONST:
          if (heap.tooGreat(t.a[n])) put(GREAT);
          return -t.a[n];
        case Tree.REF:
          return reference(n);
        case Tree.PAREN:
          return expression(t.first[n]);
        case Tree.SIGNS:
          return signs(n);
        case Tree.CALL: {
          int op = t.res[n] == Checker.FUNCTION ? FUNCTION : BUILTIN;
          return row(op, t.ref[n], n);
        }
        case Tree.ARRAY:
          return row(ROW, Heap.ARRAY, n);
        case Tree.SET:
          return row(ROW, Heap.SET, n);
        case Tree.OBJECT:
          return row(ROW, Heap.OBJECT, n);
        default:
          return comprehension(n);
      }
    }

    private int row(int op, int what, int n) {
      int base = used;
      for (int i = t.first[n]; i != 0; i = t.next[i]) {
        int value = expression(i);
        keep(value);
      }
      int to = registers(1);
      putFour(op, what, to, used - base);
      for (int i = base; i < used; i++) put(ops[i]);
      used = base;
      return to;
    }

    private int signs(int n) {
      int base = used;
      for (int i = t.first[n]; i != 0; i = t.next[i]) {
        if (t.kind[i] != Tree.SIGN) {
          int value = expression(i);
          keep(value);
        } else if (used >= base + 2) {
          int to = registers(1);
          putFour(SIGN, t.a[i], to, ops[used - 2]);
          put(ops[used - 1]);
          used--;
          ops[used - 1] = to;
        }
      }
      int value = used > base ? ops[used - 1] : -Heap.NULL;
      used = base;
      return value;
    }

    private int reference(int n) {
      int res = t.res[n];
      if (res == Checker.VAR && t.first[n] == 0) return FIRST + t.ref[n];
      int r = registers(2);
      boolean alias = res == Checker.ALIAS;
      boolean input = res == Checker.INPUT || alias && t.a[t.ref[n]] == 0;
      int node = alias ? t.ref[t.ref[n]] : 0;
      if (res == Checker.RULE) node = b.of(t.ref[n], Bundle.NODE);
      if (res == Checker.VAR) putThree(REFVAR, r, FIRST + t.ref[n]);
      else putThree(input ? REFINPUT : REFDATA, r, node);
      for (int i = t.first[n]; i != 0; i = t.next[i]) {
        if (t.kind[i] == Tree.DOT) putFour(STEP, r, -t.a[i], r);
        else r = step(t.first[i], r);
      }
      putTwo(VALUE, r);
      return r;
    }

    private int step(int e, int r) {
      boolean name = t.kind[e] == Tree.REF && t.first[e] == 0;
      if (name && t.res[e] == Checker.BLANK) {
        int to = registers(2);
        putFour(EACH, r, to, -1);
        return to;
      }
      if (name && t.res[e] == Checker.VAR && (known >>> t.ref[e] & 1) == 0) {
        known |= 1 << t.ref[e];
        int to = registers(2);
        putFour(EACH, r, to, FIRST + t.ref[e]);
        return to;
      }
      int key = expression(e);
      int to = registers(2);
      putFour(STEP, r, key, to);
      return to;
    }

    private int comprehension(int n) {
      int to = registers(1);
      putFour(GATHER, t.kind[n] - Tree.ARRAYS + Heap.ARRAY, to, 0);
      int resume = size - 1;
      int was = known;
      int body = bodyOf(n);
      known |= around(t.res[n]);
      literals(body);
      int item = t.first[n];
      int x = expression(item);
      boolean pair = t.kind[n] == Tree.OBJECTS;
      int y = pair ? expression(t.next[item]) : 0;
      putFour(ADD, pair ? 2 : 1, x, y);
      known = was;
      code[resume] = size;
      return to;
    }
  }

  /** A prepared query: it keeps its bundle and its DATA. */
  static final class Query {
    final Tree tree;
    Bundle bundle = null;
    int value = 0;
    int frame = 0;
    int[] code = null;
    int[] reads = null;
    int[] order = null;

    Query(Tree tree) {
      this.tree = tree;
    }

    /** The rules that literals without with read. */
    void setReads(Checker checker) {
      checker.clearBits();
      checker.collectAll(tree.root, true);
      if (reads == null) reads = new int[checker.bits.length];
      System.arraycopy(checker.bits, 0, reads, 0, reads.length);
    }

    /** The numbers of the literals, in the order that they have been put in. */
    void setOrder() {
      int n = 0;
      for (int i = tree.first[tree.root]; i != 0; i = tree.next[i]) n++;
      if (order == null) order = new int[n];
      int k = 0;
      for (int i = tree.last[tree.root]; i != 0 && k < n; i = tree.last[i]) {
        int number = 0;
        for (int j = tree.first[tree.root]; j != i && j != 0; j = tree.next[j]) number++;
        order[k] = number;
        k++;
      }
    }
  }

  /** What a run sees: INPUT, DATA and documents by scope; its fuel, and what was noted. */
  static final class Scopes {
    static final int FUEL = 40000;
    static final int INPUT = 0;
    static final int DATA = 1;
    static final int CHANGED = 2;
    static final int PAIRS = 3;
    static final int MOST = 12;
    static final int RULES = PAIRS + 2 * MOST;
    final Heap heap;
    final Names names;
    Bundle bundle = null;
    int now = 0;
    int outNode = -1;
    int outValue = 0;
    final int[] path = new int[10];
    final int[] need = new int[16];
    int fuel = 0;
    boolean free = false;
    boolean strict = false;
    boolean limit = false;
    int notes = 0;
    int leastRule = NONE;
    int leastBuiltin = NONE;
    final int[] tries = new int[402];

    Scopes(Heap heap, Names names) {
      this.heap = heap;
      this.names = names;
    }

    /** The QUERY's own scope, without documents as yet. */
    void begin(Bundle all, int data, int input, boolean isStrict) {
      bundle = all;
      strict = isStrict;
      fuel = 0;
      free = false;
      limit = false;
      notes = 0;
      leastRule = NONE;
      leastBuiltin = NONE;
      for (int i = 0; i < tries.length; i++) tries[i] = 0;
      now = heap.room(RULES + bundle.rules);
      heap.cell[now + INPUT] = input;
      heap.cell[now + DATA] = data;
      heap.cell[now + CHANGED] = 0;
      for (int r = 0; r < bundle.rules; r++) heap.cell[now + RULES + r] = 0;
    }

    void take(int n) {
      if (free || limit) return;
      fuel += n;
      if (fuel <= FUEL) return;
      fuel = FUEL;
      limit = true;
    }

    void exhaust() {
      fuel = FUEL;
      limit = true;
    }

    void note(int kind) {
      notes |= 1 << kind;
    }

    void noteConflict(int r) {
      note(1);
      if (leastRule < 0 || r < leastRule) leastRule = r;
    }

    void noteBuiltin(int id) {
      note(3);
      if (leastBuiltin < 0 || id < leastBuiltin) leastBuiltin = id;
    }

    /** The first kind that was noted; 4 by LIMIT, 0 without one. */
    int outcome() {
      if (limit) return 4;
      for (int k = 1; k <= 3; k++) {
        if ((notes >>> k & 1) != 0) return k;
      }
      return 0;
    }

    /** What is made takes its weight: the value, or 0 for none and what is too great. */
    int weigh(int h) {
      if (h == Heap.BIG) {
        note(2);
        take(Heap.HEAVY);
        return 0;
      }
      if (h != 0) take(heap.weight(h));
      return h;
    }

    /** A document that is replaced stands below 0. */
    int valueOf(int r) {
      int v = heap.cell[now + RULES + r];
      return v < 0 ? -v : v;
    }

    /** A new scope within this one, with what is replaced here. */
    void deepen() {
      int s = heap.room(RULES + bundle.rules);
      for (int i = 0; i < RULES; i++) heap.cell[s + i] = heap.cell[now + i];
      for (int r = 0; r < bundle.rules; r++) {
        heap.cell[s + RULES + r] = Math.min(heap.cell[now + RULES + r], 0);
      }
      now = s;
    }

    /** Replaces in this scope: kind 0 in INPUT, 1 in DATA, 2 a rule's document. */
    boolean replace(int kind, int what, int value) {
      if (kind == 2) {
        heap.cell[now + RULES + what] = -value;
        return true;
      }
      int n = names.pathOf(what, path);
      int was = kind == 0 ? heap.cell[now + INPUT] : replaced(path[0]);
      if (was == 0 && kind == 1) was = heap.stepTo(heap.cell[now + DATA], path[0]);
      int h = changed(was, kind, n, value);
      if (h == Heap.BIG) return false;
      if (kind == 0) heap.cell[now + INPUT] = h;
      else keep(path[0], h);
      boolean great = heap.tooGreat(h);
      take(great ? Heap.HEAVY : heap.weight(h));
      if (kind == 1 || !great) return true;
      note(2);
      return false;
    }

    /** What DATA has by a key as it is replaced in this scope, or 0. */
    int replaced(int key) {
      int at = now + PAIRS;
      for (int i = 0; i < heap.cell[now + CHANGED]; i++) {
        if (heap.equal(heap.cell[at + 2 * i], key)) return heap.cell[at + 2 * i + 1];
      }
      return 0;
    }

    /** The names under which DATA is changed stand in the scope: DATA itself is not made anew. */
    void keep(int name, int value) {
      int n = heap.cell[now + CHANGED];
      int i = 0;
      while (i < n && heap.cell[now + PAIRS + 2 * i] != name) i++;
      // Three scopes with four targets each are all that there can be.
      if (i >= MOST) return;
      heap.cell[now + PAIRS + 2 * i] = name;
      heap.cell[now + PAIRS + 2 * i + 1] = value;
      heap.cell[now + CHANGED] = Math.max(n, i + 1);
    }

    private int changed(int h, int i, int n, int value) {
      if (i >= n) return value;
      boolean object = h != 0 && heap.kind(h) == Heap.OBJECT;
      int at = object ? heap.find(h, path[i]) : -1;
      int below = changed(at < 0 ? 0 : heap.item(h, at), i + 1, n, value);
      if (below == Heap.BIG) return below;
      int base = heap.used;
      for (int k = 0; object && k < heap.size(h); k++) {
        if (k == at) continue;
        heap.push(heap.label(h, k));
        heap.push(heap.item(h, k));
      }
      heap.push(path[i]);
      heap.push(below);
      return heap.made(Heap.OBJECT, base, true);
    }

    /** The rules whose documents are to be made for what is read: a row with its size ahead. */
    int wanted(int[] bits, int from) {
      for (int i = 0; i < bundle.words; i++) need[i] = from + i < bits.length ? bits[from + i] : 0;
      int n = 0;
      for (int i = bundle.rules - 1; i >= 0; i--) {
        int r = bundle.rank[i];
        boolean function = bundle.of(r, Bundle.SORT) == 1;
        if (!isNeeded(r) || !function && heap.cell[now + RULES + r] < 0) continue;
        if (!function) n++;
        for (int k = 0; k < bundle.words; k++) need[k] |= bundle.reads[r * bundle.words + k];
      }
      int list = heap.room(n + 1);
      heap.cell[list] = n;
      int at = list + 1;
      for (int i = 0; i < bundle.rules; i++) {
        int r = bundle.rank[i];
        boolean made = bundle.of(r, Bundle.SORT) != 1 && heap.cell[now + RULES + r] >= 0;
        if (!made || !isNeeded(r)) continue;
        heap.cell[at] = r;
        at++;
      }
      return list;
    }

    boolean isNeeded(int r) {
      return (need[r >> 5] >>> (r & 31) & 1) != 0;
    }

    boolean isNamed(int node) {
      return bundle.ruleAt(node) >= 0 || bundle.isInner(node);
    }

    /** Whether THE TREE has something at a node; out is it, a node where an object would be made. */
    boolean enter(int node, int value) {
      int r = bundle.ruleAt(node);
      outNode = -1;
      outValue = r >= 0 ? valueOf(r) : value;
      if (r >= 0) return outValue != 0;
      boolean changed = node == 0 && heap.cell[now + CHANGED] != 0;
      if (changed || bundle.isInner(node)) {
        outNode = node;
        return true;
      }
      return value != 0;
    }

    /** What DATA has by a key behind a node at which it has a value, which may be 0 for none. */
    int below(int node, int value, int key) {
      int below = node == 0 ? replaced(key) : 0;
      if (below != 0 || heap.kind(value) != Heap.OBJECT) return below;
      return heap.stepTo(value, key);
    }

    boolean stepFrom(int node, int value, int key) {
      if (node >= 0) {
        int below = node == 0 ? replaced(key) : 0;
        if (below == 0 && heap.kind(value) == Heap.OBJECT) below = heap.stepTo(value, key);
        return enter(names.findValue(node, key), below);
      }
      outNode = -1;
      outValue = heap.stepTo(value, key);
      return outValue != 0;
    }

    /** Goes along the path of a node, from DATA or INPUT on. */
    boolean follow(boolean input, int node) {
      int n = names.pathOf(node, path);
      outNode = -1;
      outValue = heap.cell[now + INPUT];
      boolean found = input ? outValue != 0 : enter(0, heap.cell[now + DATA]);
      for (int i = 0; i < n && found; i++) found = stepFrom(outNode, outValue, path[i]);
      return found;
    }

    /** Pushes the keys of what DATA has at a node, but those of rules and packages; or pairs. */
    void pushData(int node, int value, boolean pairs) {
      boolean object = heap.kind(value) == Heap.OBJECT;
      int own = object ? heap.size(value) : 0;
      int all = node == 0 ? own + heap.cell[now + CHANGED] : own;
      for (int i = 0; i < all; i++) {
        int at = now + PAIRS + 2 * (i - own);
        if (i < own) at = value + 2 + 2 * i;
        int key = heap.cell[at];
        if (isNamed(names.findValue(node, key))) continue;
        heap.push(key);
        if (pairs) heap.push(heap.cell[at + 1]);
      }
    }

    /** The keys of the object that THE TREE has at a node. */
    int keysOf(int node, int value) {
      int base = heap.used;
      pushData(node, value, false);
      for (int c = names.child[node]; c != 0; c = names.sibling[c]) {
        int key = names.name[c];
        if (isNamed(c) && enter(c, below(node, value, key))) heap.push(key);
      }
      return heap.made(Heap.SET, base, true);
    }

    /** The object that THE TREE has at a node, however great. */
    private int treeValue(int node, int value) {
      int base = heap.used;
      pushData(node, value, true);
      for (int c = names.child[node]; c != 0; c = names.sibling[c]) {
        int key = names.name[c];
        if (!isNamed(c) || !enter(c, below(node, value, key))) continue;
        int v = outNode >= 0 ? treeValue(outNode, outValue) : outValue;
        if (v == Heap.BIG) {
          heap.used = base;
          return v;
        }
        heap.push(key);
        heap.push(v);
      }
      return heap.made(Heap.OBJECT, base, true);
    }
  }

  /** Runs code: choices stand on a stack, and what fails goes on at the last one. */
  static final class Machine {
    static final int QUERY = 1 << 24;
    static final int EACH = 1;
    static final int TREE = 2;
    static final int SOME = 3;
    static final int GATHER = 4;
    static final int NOT = 5;
    static final int EVERY = 6;
    static final int RULE = 7;
    static final int DOCS = 8;
    static final int END = 9;
    static final int PC = 1;
    static final int FP = 2;
    static final int SCOPE = 3;
    static final int A = 4;
    static final int B = 5;
    static final int C = 6;
    static final int D = 7;
    static final int E = 8;
    static final int F = 9;
    static final int G = 10;
    static final int H = 11;
    static final int I = 12;
    static final int WIDTH = 13;
    static final int CHOICES = 4500;
    static final int STEPS = 1000000000;

    final Heap heap;
    final Scopes scopes;
    final Builtins builtins;
    final int[] regs = new int[20000];
    final int[] cp = new int[CHOICES * WIDTH];
    int choices = 0;
    int pc = 0;
    int fp = 0;
    int top = 0;
    boolean failing = false;
    boolean stopped = false;
    boolean pending = false;
    Bundle bundle = null;
    int[] own = null;
    int[] c = null;
    int p = 0;
    int scope = 0;
    int results = 0;
    final int[] fixed = new int[400];

    Machine(Heap heap, Scopes scopes, Builtins builtins) {
      this.heap = heap;
      this.scopes = scopes;
      this.builtins = builtins;
    }

    /** A run: what came of it stands in scopes, results and the documents of scope. */
    void perform(Query q, int input, boolean strict) {
      begin(q, input, strict);
      for (int i = 0; i < STEPS && !stopped; i++) {
        int op = failing || pending ? 0 : fetch();
        if (failing) goBack();
        else if (pending) nextDocument();
        else if (op == Coder.BUILTIN && isPaid()) giveBuiltin(builtins.call(c[p + 1]));
        else if (op <= Coder.FUNCTION) stepValue(op);
        else if (op <= Coder.TEST) stepChoice(op);
        else stepMatch(op);
        if (scopes.limit || heap.full) stopped = true;
      }
      if (!stopped || heap.full || scopes.limit) {
        scopes.exhaust();
        heap.reset(Heap.RUN);
      }
      if (scopes.outcome() == 0) results = heap.made(Heap.SET, 0, true);
      heap.used = 0;
    }

    void begin(Query q, int input, boolean strict) {
      heap.reset(Heap.RUN);
      scopes.begin(q.bundle, q.value, input, strict);
      bundle = q.bundle;
      own = q.code;
      for (int r = 0; r < fixed.length; r++) fixed[r] = 0;
      scope = scopes.now;
      results = 0;
      choices = 0;
      failing = false;
      stopped = false;
      fp = 0;
      top = q.frame;
      choose(END, 0);
      makeDocuments(scopes.wanted(q.reads, 0), QUERY);
    }

    int fetch() {
      boolean query = pc >= QUERY;
      c = query ? own : bundle.code;
      p = query ? pc - QUERY : pc;
      return c[p];
    }

    /** A new choice, at which the run goes on with this frame and scope: its place. */
    int choose(int kind, int resume) {
      if (choices >= CHOICES) {
        heap.full = true;
        return 0;
      }
      int t = choices * WIDTH;
      choices++;
      cp[t] = kind;
      cp[t + PC] = resume;
      cp[t + FP] = fp;
      cp[t + SCOPE] = scopes.now;
      for (int i = A; i < WIDTH; i++) cp[t + i] = 0;
      return t;
    }

    void goBack() {
      int t = Math.max(choices - 1, 0) * WIDTH;
      failing = false;
      fp = cp[t + FP];
      scopes.now = cp[t + SCOPE];
      pc = cp[t + PC];
      switch (cp[t]) {
        case EACH:
        case TREE:
        case SOME:
          nextOf(t);
          break;
        case GATHER:
          choices--;
          set(cp[t + B], scopes.weigh(heap.made(cp[t + A], cp[t + C], false)));
          break;
        case NOT:
          choices--;
          failing = cp[t + A] != 0;
          break;
        case EVERY:
          nextOfEvery(t);
          break;
        case RULE:
          nextBranch(t);
          break;
        default:
          stopped = true;
      }
    }

    /** A register gets a value; without one the way ends. */
    void set(int register, int value) {
      if (value == 0) failing = true;
      else regs[fp + register] = value;
    }

    void nextOf(int t) {
      int row = cp[t + A];
      int i = cp[t + B];
      if (i >= heap.size(row)) {
        choices--;
        failing = true;
        return;
      }
      cp[t + B]++;
      scopes.take(1);
      int to = fp + cp[t + C];
      int key = cp[t + D];
      if (cp[t] == TREE) {
        int name = heap.item(row, i);
        failing = !scopes.stepFrom(cp[t + E], cp[t + F], name);
        regs[to] = scopes.outValue;
        regs[to + 1] = scopes.outNode;
        if (key >= 0) regs[fp + key] = name;
        return;
      }
      regs[to] = heap.item(row, i);
      if (cp[t] == EACH) regs[to + 1] = -1;
      if (key >= 0) regs[fp + key] = heap.label(row, i);
    }

    void nextOfEvery(int t) {
      int row = cp[t + A];
      int i = cp[t + B];
      if (cp[t + E] == 0) cp[t + F] = 1;
      if (i >= heap.size(row)) {
        choices--;
        failing = cp[t + F] != 0;
        return;
      }
      cp[t + B]++;
      cp[t + E] = 0;
      if (cp[t + C] >= 0) regs[fp + cp[t + C]] = heap.label(row, i);
      regs[fp + cp[t + D]] = heap.item(row, i);
      pc = cp[t + G];
    }

    /** A DOCUMENT or a FUNCTION's value is begun, in a frame of its own. */
    void beginRule(int r, int to, int resume) {
      int t = choose(RULE, resume);
      int frame = bundle.of(r, Bundle.FRAME);
      if (heap.full || top + frame > regs.length) {
        heap.full = true;
        return;
      }
      cp[t + A] = r;
      cp[t + G] = to;
      cp[t + H] = heap.used;
      cp[t + I] = top;
      regs[top] = t;
      top += frame;
      beginPart(t, bundle.of(r, Bundle.FIRST));
    }

    /** Behind the last part the way fails, and B is below 0. */
    void beginPart(int t, int part) {
      int p = part;
      for (int i = 0; i < bundle.parts && p >= 0; i++) {
        if (bundle.part[p * Bundle.STRIDE + Bundle.COUNT] > 0) break;
        p = bundle.part[p * Bundle.STRIDE + Bundle.NEXT];
      }
      cp[t + B] = p;
      cp[t + C] = -1;
      cp[t + E] = 0;
      failing = p < 0;
      if (failing) return;
      fp = cp[t + I];
      pc = bundle.branch[bundle.part[p * Bundle.STRIDE + Bundle.START]];
    }

    /** Behind a branch: the next one where it had no value, the next part, the end. */
    void nextBranch(int t) {
      if (cp[t + C] == -2) {
        scopes.free = false;
        fixed[cp[t + A]] = -1;
        endRule(t, 0);
        return;
      }
      if (cp[t + B] < 0) {
        finishRule(t);
        return;
      }
      int at = cp[t + B] * Bundle.STRIDE;
      int branch = cp[t + C] + 1;
      if (branch == 0 || cp[t + E] != 0 || branch >= bundle.part[at + Bundle.COUNT]) {
        beginPart(t, bundle.part[at + Bundle.NEXT]);
        return;
      }
      cp[t + C] = branch;
      fp = cp[t + I];
      pc = bundle.branch[bundle.part[at + Bundle.START] + branch];
    }

    void finishRule(int t) {
      int r = cp[t + A];
      int sort = bundle.of(r, Bundle.SORT);
      int value = cp[t + D];
      if (sort >= 2) {
        value = heap.made(sort == 2 ? Heap.SET : Heap.OBJECT, cp[t + H], false);
        if (value == 0) scopes.noteConflict(r);
        value = scopes.weigh(value);
      } else if (cp[t + F] != 0) {
        scopes.noteConflict(r);
        value = 0;
      } else if (value == 0 && fixed[r] != 0) {
        value = Math.max(fixed[r], 0);
      } else if (value == 0 && bundle.of(r, Bundle.FIXED) >= 0) {
        // Defaults take no FUEL: each is made once in a RUN, however many SCOPES there are.
        cp[t + C] = -2;
        scopes.free = true;
        fp = cp[t + I];
        pc = bundle.of(r, Bundle.FIXED);
        return;
      }
      endRule(t, value);
    }

    void endRule(int t, int value) {
      choices--;
      top = cp[t + I];
      fp = cp[t + FP];
      scopes.now = cp[t + SCOPE];
      pc = cp[t + PC];
      if (cp[t + G] >= 0) {
        set(cp[t + G], value);
        return;
      }
      heap.cell[scopes.now + Scopes.RULES + cp[t + A]] = value;
      pending = true;
    }

    /** Documents of this scope are made, then the run goes on. */
    void makeDocuments(int list, int resume) {
      int t = choose(DOCS, resume);
      if (heap.full) return;
      cp[t + B] = list;
      pending = true;
    }

    void nextDocument() {
      pending = false;
      int t = Math.max(choices - 1, 0) * WIDTH;
      int list = cp[t + B];
      int i = cp[t + C];
      scopes.now = cp[t + SCOPE];
      if (i < heap.cell[list]) {
        cp[t + C]++;
        beginRule(heap.cell[list + 1 + i], -1, 0);
        return;
      }
      choices--;
      fp = cp[t + FP];
      pc = cp[t + PC];
    }

    /** The value of an operand: of a register, or a constant below 0. */
    int val(int i) {
      int o = c[p + i];
      return o < 0 ? -o : regs[fp + o];
    }

    void stepValue(int op) {
      switch (op) {
        case Coder.TRY:
          scopes.take(1);
          scopes.tries[c[p + 1] + 1]++;
          pc += 2;
          break;
        case Coder.GREAT:
          scopes.note(2);
          failing = true;
          break;
        case Coder.REFVAR:
          regs[fp + c[p + 1]] = val(2);
          regs[fp + c[p + 1] + 1] = -1;
          pc += 3;
          break;
        case Coder.REFINPUT:
        case Coder.REFDATA:
          place(c[p + 1], scopes.follow(op == Coder.REFINPUT, c[p + 2]));
          pc += 3;
          break;
        case Coder.STEP:
          place(c[p + 3], scopes.stepFrom(regs[fp + c[p + 1] + 1], val(1), val(2)));
          pc += 4;
          break;
        case Coder.EACH:
          beginEach();
          break;
        case Coder.VALUE:
          makeValue(c[p + 1]);
          pc += 2;
          break;
        case Coder.ROW:
          set(c[p + 2], makeRow());
          pc += 4 + c[p + 3];
          break;
        case Coder.SIGN:
          scopes.take(heap.weight(val(3)) + heap.weight(val(4)));
          if (!scopes.limit) set(c[p + 2], scopes.weigh(builtins.sign(c[p + 1], val(3), val(4))));
          pc += 5;
          break;
        case Coder.FUNCTION:
          callFunction(c[p + 1], c[p + 3]);
          break;
        default:
          stopped = true;
      }
    }

    /** What a reference has come to, where it has. */
    void place(int register, boolean found) {
      failing = !found;
      regs[fp + register] = scopes.outValue;
      regs[fp + register + 1] = scopes.outNode;
    }

    void beginEach() {
      int value = val(1);
      int node = regs[fp + c[p + 1] + 1];
      int row = node >= 0 ? scopes.keysOf(node, value) : value;
      if (row < 0 || !heap.isRow(row)) {
        failing = true;
        return;
      }
      int t = choose(node >= 0 ? TREE : EACH, pc + 4);
      cp[t + A] = row;
      cp[t + C] = c[p + 2];
      cp[t + D] = c[p + 3];
      cp[t + E] = node;
      cp[t + F] = value;
      pc += 4;
      nextOf(t);
    }

    /** An object of THE TREE is made where a reference ends at one. */
    void makeValue(int register) {
      int node = regs[fp + register + 1];
      if (node < 0) return;
      int h = scopes.treeValue(node, regs[fp + register]);
      set(register, scopes.weigh(heap.checked(h)));
      regs[fp + register + 1] = -1;
    }

    int makeRow() {
      int base = heap.used;
      for (int i = 0; i < c[p + 3]; i++) heap.push(val(4 + i));
      return scopes.weigh(heap.made(c[p + 1], base, false));
    }

    /** The operands are there, and what they take is taken. */
    boolean isPaid() {
      for (int i = 0; i < c[p + 3]; i++) {
        int value = val(4 + i);
        builtins.arg[i] = value;
        scopes.take(heap.weight(value));
      }
      return !scopes.limit;
    }

    void giveBuiltin(int value) {
      scopes.take(builtins.spent);
      if (value == 0 && scopes.strict) scopes.noteBuiltin(c[p + 1]);
      set(c[p + 2], scopes.weigh(value));
      pc += 4 + c[p + 3];
    }

    void callFunction(int r, int n) {
      scopes.take(1);
      for (int i = 0; i < n && top + 1 + i < regs.length; i++) regs[top + 1 + i] = val(4 + i);
      beginRule(r, c[p + 2], pc + 4 + n);
    }

    void stepChoice(int op) {
      int t;
      switch (op) {
        case Coder.GATHER:
          t = choose(GATHER, pc - p + c[p + 3]);
          cp[t + A] = c[p + 1];
          cp[t + B] = c[p + 2];
          cp[t + C] = heap.used;
          pc += 4;
          break;
        case Coder.ADD:
          heap.push(val(2));
          if (c[p + 1] == 2) heap.push(val(3));
          failing = true;
          break;
        case Coder.NOT:
          t = choose(NOT, pc - p + c[p + 2]);
          regs[fp + c[p + 1]] = t;
          pc += 3;
          break;
        case Coder.NOTHIT:
          if (val(1) != Heap.FALSE) cp[val(2) + A] = 1;
          failing = true;
          break;
        case Coder.EVERY:
          beginEvery();
          break;
        case Coder.EVERYHIT:
          cp[val(1) + E] = 1;
          failing = true;
          break;
        case Coder.SOMEIN:
          beginSome();
          break;
        default:
          failing = val(1) == Heap.FALSE;
          pc += 2;
      }
    }

    void beginEvery() {
      int row = val(1);
      if (!heap.isRow(row)) {
        failing = true;
        return;
      }
      int t = choose(EVERY, pc - p + c[p + 5]);
      regs[fp + c[p + 4]] = t;
      cp[t + A] = row;
      cp[t + C] = c[p + 2];
      cp[t + D] = c[p + 3];
      cp[t + E] = 1;
      cp[t + G] = pc + 6;
      pc = cp[t + PC];
      nextOfEvery(t);
    }

    void beginSome() {
      int row = val(1);
      if (!heap.isRow(row)) {
        failing = true;
        return;
      }
      pc += 4;
      int t = choose(SOME, pc);
      cp[t + A] = row;
      cp[t + C] = c[p + 3];
      cp[t + D] = c[p + 2];
      nextOf(t);
    }

    void stepMatch(int op) {
      switch (op) {
        case Coder.EQUAL:
          failing = !heap.equal(val(1), val(2));
          pc += 3;
          break;
        case Coder.MOVE:
          regs[fp + c[p + 1]] = val(2);
          pc += 3;
          break;
        case Coder.SPLIT:
          splitRow(val(1), c[p + 2], c[p + 3]);
          pc += 4;
          break;
        case Coder.ISOBJECT:
          failing = heap.kind(val(1)) != Heap.OBJECT;
          pc += 2;
          break;
        case Coder.KEY:
          matchKey(val(1), val(2));
          pc += 5;
          break;
        case Coder.KEYS:
          failing = countKeys(c[p + 2], fp + c[p + 3]) != heap.size(val(1));
          pc += 4;
          break;
        case Coder.WITH:
          beginWith(c[p + 2]);
          break;
        case Coder.WITHEND:
          scopes.now = val(1);
          pc += 2;
          break;
        case Coder.ENTER:
          cp[regs[fp] + C] = 0;
          pc++;
          break;
        default:
          stepGive(op);
      }
    }

    void splitRow(int row, int parts, int to) {
      failing = heap.kind(row) != Heap.ARRAY || heap.size(row) != parts;
      for (int i = 0; i < parts && !failing; i++) regs[fp + to + i] = heap.item(row, i);
    }

    void matchKey(int object, int key) {
      scopes.take(1);
      int i = heap.find(object, key);
      failing = i < 0;
      if (failing) return;
      regs[fp + c[p + 3]] = heap.item(object, i);
      regs[fp + c[p + 4]] = i;
    }

    /** How many different places stand in a row of registers. */
    int countKeys(int n, int from) {
      int different = 0;
      for (int i = 0; i < n; i++) {
        boolean again = false;
        for (int j = 0; j < i && !again; j++) again = regs[from + j] == regs[from + i];
        if (!again) different++;
      }
      return different;
    }

    void beginWith(int targets) {
      scopes.take(100);
      int was = scopes.now;
      regs[fp + c[p + 1]] = was;
      scopes.deepen();
      for (int i = 0; i < targets; i++) {
        int at = 3 + 3 * i;
        if (scopes.limit || !scopes.replace(c[p + at], c[p + at + 1], val(at + 2))) {
          scopes.now = was;
          failing = true;
          return;
        }
      }
      int bits = p + 3 + 3 * targets;
      makeDocuments(scopes.wanted(c, bits), pc + 3 + 3 * targets + bundle.words);
    }

    void stepGive(int op) {
      int t = regs[fp];
      failing = true;
      if (op == Coder.RESULT) {
        int base = heap.used;
        for (int i = 0; i < c[p + 1]; i++) heap.push(val(2 + i));
        int value = scopes.weigh(heap.made(Heap.ARRAY, base, false));
        if (value != 0) heap.push(value);
      } else if (op == Coder.FIXED) {
        failing = false;
        scopes.free = false;
        fixed[cp[t + A]] = val(1);
        endRule(t, val(1));
      } else if (op == Coder.GIVEPAIR) {
        heap.push(val(1));
        heap.push(val(2));
      } else if (bundle.of(cp[t + A], Bundle.SORT) == 2) {
        heap.push(val(1));
      } else {
        if (cp[t + D] == 0) cp[t + D] = val(1);
        else if (!heap.equal(cp[t + D], val(1))) cp[t + F] = 1;
        cp[t + E] = 1;
      }
    }
  }

  /** Signs, and built-ins of numbers, rows and all values; 0 is no value, BIG is too great. */
  static final class Builtins {
    static final long BAD = -9000000000000000000L;
    static final int STEPS = Heap.LAXDEEP;
    static final String WEEK = "Thursday Friday Saturday Sunday Monday Tuesday Wednesday ";
    final Heap heap;
    final Texts texts;
    final Strings strings;
    final int[] arg = new int[4];
    int spent = 0;
    final int[] path = new int[STEPS];
    final int[] from = new int[STEPS];
    final int[] member = new int[4];
    int heavy = 0;

    Builtins(Heap heap, Texts texts, Names names, Strings strings) {
      this.heap = heap;
      this.texts = texts;
      this.strings = strings;
      String keys = "op  pathfromvalu";
      int[] letters = new int[5];
      for (int i = 0; i < 4; i++) {
        for (int k = 0; k < 4; k++) letters[k] = keys.charAt(4 * i + k);
        letters[4] = 'e';
        member[i] = names.sym(letters, 0, i == 0 ? 2 : i == 3 ? 5 : 4);
      }
    }

    /** A product in millionths, or BAD out of bounds. */
    static long times(long a, long b) {
      long x = Math.abs(a);
      long y = Math.abs(b);
      long high = x / Heap.ONE;
      long low = x % Heap.ONE;
      if (high > 0 && y > Heap.MOST / high) return BAD;
      long rest = low * (y % Heap.ONE);
      long all = high * y + low * (y / Heap.ONE) + (rest + 500000) / Heap.ONE;
      if (all > Heap.MOST) return BAD;
      return (a < 0) != (b < 0) ? -all : all;
    }

    static long over(long a, long b) {
      if (b == 0) return BAD;
      long x = Math.abs(a);
      long y = Math.abs(b);
      long all = x / y;
      long rest = x % y;
      if (all > Heap.MOST / Heap.ONE) return BAD;
      for (int i = 0; i < 6; i++) {
        long five = rest * 5;
        long ten = five % y * 2;
        all = all * 10 + five / y * 2 + ten / y;
        rest = ten % y;
      }
      if (rest >= y - rest) all++;
      if (all > Heap.MOST) return BAD;
      return (a < 0) != (b < 0) ? -all : all;
    }

    int numberOf(long value) {
      return value == BAD ? 0 : heap.bounded(value);
    }

    int sign(int s, int x, int y) {
      if (Reader.levelOf(s) == 0) return s == Reader.IN ? heap.truth(isIn(x, y)) : compared(s, x, y);
      if (heap.kind(x) == Heap.SET && heap.kind(y) == Heap.SET) return setSign(s, x, y);
      if (heap.kind(x) != Heap.NUMBER || heap.kind(y) != Heap.NUMBER) return 0;
      long a = heap.number(x);
      long b = heap.number(y);
      switch (s) {
        case Reader.PLUS:
          return numberOf(a + b);
        case Reader.MINUS:
          return numberOf(a - b);
        case Reader.TIMES:
          return numberOf(times(a, b));
        case Reader.OVER:
          return numberOf(over(a, b));
        case Reader.REST:
          return b == 0 || a % Heap.ONE != 0 || b % Heap.ONE != 0 ? 0 : numberOf(a % b);
        default:
          return 0;
      }
    }

    int compared(int s, int x, int y) {
      int c = heap.compare(x, y);
      switch (s) {
        case Reader.SAME:
          return heap.truth(c == 0);
        case Reader.OTHER:
          return heap.truth(c != 0);
        case Reader.LESS:
          return heap.truth(c < 0);
        case Reader.ATMOST:
          return heap.truth(c <= 0);
        case Reader.MORE:
          return heap.truth(c > 0);
        default:
          return heap.truth(c >= 0);
      }
    }

    boolean isIn(int x, int row) {
      for (int i = 0; heap.isRow(row) && i < heap.size(row); i++) {
        if (heap.equal(x, heap.item(row, i))) return true;
      }
      return false;
    }

    int setSign(int s, int x, int y) {
      if (s != Reader.MINUS && s != Reader.BAR && s != Reader.AND) return 0;
      int base = heap.used;
      for (int i = 0; i < heap.size(x); i++) {
        int e = heap.item(x, i);
        boolean both = s != Reader.BAR && heap.find(y, e) >= 0;
        if (s == Reader.BAR || both == (s == Reader.AND)) heap.push(e);
      }
      if (s == Reader.BAR) pushAll(y);
      return heap.made(Heap.SET, base, false);
    }

    /** Pushes the elements of an array or set. */
    void pushAll(int row) {
      for (int i = 0; i < heap.size(row); i++) heap.push(heap.cell[row + 2 + i]);
    }

    boolean takesAll(int id) {
      int at = strings.names.kinds[id];
      for (int i = 0; i < strings.names.arity[id]; i++) {
        char letter = Names.BUILTINS.charAt(at + i);
        if (letter == 'w' && !heap.isWhole(arg[i])) return false;
        if (letter != 'y' && !Coder.takes(letter, heap.kind(arg[i]))) return false;
      }
      return true;
    }

    int call(int id) {
      spent = 0;
      if (id < 0 || id >= 70 || !takesAll(id)) return 0;
      if (id <= 3) return rounded(id, heap.number(arg[0]));
      if (id <= 10) return ofRow(id);
      if (id == 31) return strings.sprintf(arg[0], arg[1]);
      if (id < 31) return strings.call(id, arg);
      if (id <= 36) return ofArray(id);
      if (id == 40) return patched(arg[0], arg[1], false);
      if (id <= 42) return ofObject(id);
      if (id <= 50) return ofKind(id);
      if (id == 57) return json(arg[0]);
      if (id == 58) {
        int start = arg[0] + 1;
        return heap.checked(texts.readJson(heap.cell, start, start + heap.size(arg[0])));
      }
      if (id == 60) return strings.globMatch(arg[0], arg[1], arg[2]);
      if (id <= 64) return strings.callMore(id, arg);
      return id == 69 ? walkAll(arg[0]) : ofTime(id);
    }

    int rounded(int id, long v) {
      long all = Math.abs(v);
      if (id == 1) all = -Math.floorDiv(-v, Heap.ONE) * Heap.ONE;
      if (id == 2) all = Math.floorDiv(v, Heap.ONE) * Heap.ONE;
      if (id == 3) all = (all + 500000) / Heap.ONE * Heap.ONE * (v < 0 ? -1 : 1);
      return numberOf(all);
    }

    int ofRow(int id) {
      int row = arg[0];
      int n = heap.size(row);
      switch (id) {
        case 4:
          return range(heap.number(row) / Heap.ONE, heap.number(arg[1]) / Heap.ONE);
        case 5:
          return heap.kind(row) <= Heap.NUMBER ? 0 : heap.newNumber(n * Heap.ONE);
        case 6:
        case 7:
          return total(row, id == 7);
        case 8:
        case 9:
          return n == 0 ? 0 : extreme(row, id == 8);
        default: {
          int base = heap.used;
          pushAll(row);
          heap.sort(base, n, 1);
          return heap.made(Heap.ARRAY, base, false);
        }
      }
    }

    int range(long a, long b) {
      long n = Math.abs(b - a) + 1;
      if (n > 500) return 0;
      int base = heap.used;
      for (int i = 0; i < n; i++) heap.push(heap.newNumber((a < b ? a + i : a - i) * Heap.ONE));
      return heap.made(Heap.ARRAY, base, false);
    }

    int total(int row, boolean product) {
      long all = product ? Heap.ONE : 0;
      for (int i = 0; i < heap.size(row); i++) {
        int e = heap.item(row, i);
        if (heap.kind(e) != Heap.NUMBER) return 0;
        all = product ? times(all, heap.number(e)) : all + heap.number(e);
        if (all == BAD || Math.abs(all) > Heap.MOST) return 0;
      }
      return heap.newNumber(all);
    }

    int extreme(int row, boolean greatest) {
      int best = heap.item(row, 0);
      for (int i = 1; i < heap.size(row); i++) {
        int c = heap.compare(heap.item(row, i), best);
        if (greatest ? c > 0 : c < 0) best = heap.item(row, i);
      }
      return heap.checked(best);
    }

    int ofArray(int id) {
      int row = arg[0];
      int n = heap.size(row);
      int base = heap.used;
      if (id == 35) return got(row, arg[1], arg[2]);
      if (id == 32) {
        pushAll(row);
        pushAll(arg[1]);
      } else if (id == 33) {
        long start = Math.max(heap.number(arg[1]) / Heap.ONE, 0);
        long stop = Math.min(heap.number(arg[2]) / Heap.ONE, n);
        for (long i = start; i < stop; i++) heap.push(heap.item(row, (int) i));
      } else if (id == 34) {
        for (int i = n - 1; i >= 0; i--) heap.push(heap.item(row, i));
      } else {
        for (int i = 0; i < n; i++) heap.push(heap.label(row, i));
        return heap.made(Heap.SET, base, false);
      }
      return heap.made(Heap.ARRAY, base, false);
    }

    int got(int object, int key, int other) {
      int h = object;
      if (heap.kind(key) != Heap.ARRAY) {
        h = heap.stepTo(object, key);
      } else {
        for (int i = 0; i < heap.size(key) && h != 0; i++) h = heap.stepTo(h, heap.item(key, i));
      }
      return heap.checked(h == 0 ? other : h);
    }

    int ofObject(int id) {
      switch (id) {
        case 37:
        case 38:
          return heap.isRow(arg[1]) ? filtered(arg[0], arg[1], id == 38) : 0;
        case 39:
          return joined(arg[0], arg[1]);
        default:
          return ofSets(arg[0], id == 41);
      }
    }

    int filtered(int object, int row, boolean just) {
      int keys = row;
      int base = heap.used;
      if (heap.kind(row) == Heap.ARRAY) {
        pushAll(row);
        keys = heap.made(Heap.SET, base, true);
        if (keys < 0) return keys;
      }
      for (int i = 0; i < heap.size(object); i++) {
        int key = heap.label(object, i);
        if (heap.find(keys, key) >= 0 != just) continue;
        heap.push(key);
        heap.push(heap.item(object, i));
      }
      return heap.made(Heap.OBJECT, base, false);
    }

    private int joined(int x, int y) {
      int base = heap.used;
      for (int i = 0; i < heap.size(x); i++) {
        int key = heap.label(x, i);
        int v = heap.item(x, i);
        int other = heap.stepTo(y, key);
        boolean both = other != 0 && heap.kind(v) == Heap.OBJECT && heap.kind(other) == Heap.OBJECT;
        if (both) v = joined(v, other);
        else if (other != 0) v = other;
        if (v == Heap.BIG) {
          heap.used = base;
          return v;
        }
        heap.push(key);
        heap.push(v);
      }
      for (int i = 0; i < heap.size(y); i++) {
        int key = heap.label(y, i);
        if (heap.find(x, key) >= 0) continue;
        heap.push(key);
        heap.push(heap.item(y, i));
      }
      return heap.made(Heap.OBJECT, base, false);
    }

    int ofSets(int row, boolean union) {
      int n = heap.size(row);
      for (int i = 0; i < n; i++) {
        if (heap.kind(heap.item(row, i)) != Heap.SET) return 0;
      }
      int base = heap.used;
      if (union) {
        for (int i = 0; i < n; i++) pushAll(heap.item(row, i));
      } else if (n > 0) {
        int one = heap.item(row, 0);
        for (int i = 0; i < heap.size(one); i++) {
          boolean all = true;
          for (int k = 1; k < n && all; k++) {
            all = heap.find(heap.item(row, k), heap.item(one, i)) >= 0;
          }
          if (all) heap.push(heap.item(one, i));
        }
      }
      return heap.made(Heap.SET, base, false);
    }

    int ofKind(int id) {
      int kind = heap.kind(arg[0]);
      if (id == 43) return heap.truth(kind == 0);
      if (id == 44) return heap.truth(kind == 1 || kind == 2);
      if (id < 50) return heap.truth(kind == id - 45 + Heap.NUMBER);
      if (kind == 0) return heap.newWord("null", 0);
      if (kind < Heap.NUMBER) return heap.newWord("boolean", 0);
      if (kind == Heap.NUMBER) return heap.newWord("number", 0);
      if (kind == Heap.STRING) return heap.newWord("string", 0);
      if (kind == Heap.ARRAY) return heap.newWord("array", 0);
      return heap.newWord(kind == Heap.OBJECT ? "object" : "set", 0);
    }

    int json(int h) {
      texts.start(Heap.HEAVY);
      texts.show(h, true, 0);
      return texts.over ? Heap.BIG : heap.newString(texts.out, 0, texts.length);
    }

    int ofTime(int id) {
      if (id == 68) return seconds(arg[0]);
      long all = heap.number(arg[0]) / Heap.ONE;
      if (all < 0 || all > 253402300799L) return 0;
      long days = all / 86400;
      int base = heap.used;
      if (id == 65) {
        pushDate(days);
      } else if (id == 66) {
        heap.push(heap.newNumber(all % 86400 / 3600 * Heap.ONE));
        heap.push(heap.newNumber(all % 3600 / 60 * Heap.ONE));
        heap.push(heap.newNumber(all % 60 * Heap.ONE));
      } else {
        return heap.newWord(WEEK, weekday((int) (days % 7)));
      }
      return heap.made(Heap.ARRAY, base, false);
    }

    /** Where the name of a day stands in WEEK. */
    static int weekday(int d) {
      int at = 0;
      for (int i = 0; i < d; i++) at = Names.stopOf(WEEK, at) + 1;
      return at;
    }

    static boolean isLeap(long year) {
      return year % 4 == 0 && (year % 100 != 0 || year % 400 == 0);
    }

    static int daysIn(long year, int month) {
      if (month == 2) return isLeap(year) ? 29 : 28;
      return month == 4 || month == 6 || month == 9 || month == 11 ? 30 : 31;
    }

    /** The days from 1970 to the beginning of a year. */
    static long daysTo(long year) {
      long y = year - 1;
      return 365 * (year - 1970) + y / 4 - y / 100 + y / 400 - 477;
    }

    void pushDate(long days) {
      long year = 1970 + days / 366;
      for (int i = 0; i < 40 && daysTo(year + 1) <= days; i++) year++;
      long rest = days - daysTo(year);
      int month = 1;
      for (int i = 1; i < 12 && rest >= daysIn(year, month); i++) {
        rest -= daysIn(year, month);
        month++;
      }
      heap.push(heap.newNumber(year * Heap.ONE));
      heap.push(heap.newNumber(month * Heap.ONE));
      heap.push(heap.newNumber((rest + 1) * Heap.ONE));
    }

    long field(int row, int i, long least, long most) {
      int e = heap.item(row, i);
      if (!heap.isWhole(e)) return -1;
      long v = heap.number(e) / Heap.ONE;
      return v < least || v > most ? -1 : v;
    }

    int seconds(int row) {
      if (heap.size(row) != 6) return 0;
      long year = field(row, 0, 1970, 9999);
      long month = field(row, 1, 1, 12);
      if (year < 0 || month < 0) return 0;
      long day = field(row, 2, 1, daysIn(year, (int) month));
      long hour = field(row, 3, 0, 23);
      long minute = field(row, 4, 0, 59);
      long second = field(row, 5, 0, 59);
      if (day < 0 || hour < 0 || minute < 0 || second < 0) return 0;
      long days = daysTo(year) + day - 1;
      for (int m = 1; m < month; m++) days += daysIn(year, m);
      return heap.newNumber((((days * 24 + hour) * 60 + minute) * 60 + second) * Heap.ONE);
    }

    int walkAll(int h) {
      int base = heap.used;
      heavy = 1;
      walk(h, 0);
      if (heavy <= Heap.HEAVY) return heap.made(Heap.ARRAY, base, false);
      heap.used = base;
      return Heap.BIG;
    }

    private void walk(int h, int deep) {
      int base = heap.used;
      for (int i = 0; i < deep; i++) heap.push(path[i]);
      int way = heap.made(Heap.ARRAY, base, true);
      heavy += 1 + heap.weight(way) + heap.weight(h);
      if (heavy > Heap.HEAVY || deep >= STEPS - 1) {
        heavy = Heap.HEAVY + 1;
        return;
      }
      heap.push(way);
      heap.push(h);
      heap.push(heap.made(Heap.ARRAY, base, true));
      for (int i = 0; heap.isRow(h) && i < heap.size(h) && heavy <= Heap.HEAVY; i++) {
        path[deep] = heap.label(h, i);
        walk(heap.item(h, i), deep + 1);
      }
    }

    /** What operations make of a value; between two of them slots 10 and 11 may keep it. */
    int patched(int value, int row, boolean slots) {
      int h = value;
      int mark = heap.top;
      for (int i = 0; i < heap.size(row); i++) {
        h = operate(h, heap.item(row, i));
        if (h <= 0) return h;
        if (heap.tooGreat(h)) return Heap.BIG;
        spent += heap.weight(h);
        if (slots) {
          h = heap.copyTo(10 + (i & 1), h);
          heap.top = mark;
          spent = 0;
        } else if (spent > Scopes.FUEL) {
          return h;
        }
      }
      return heap.checked(h);
    }

    int memberOf(int op, int i) {
      return heap.stepTo(op, member[i]);
    }

    /** What one operation makes of a value, 0 if it can't be done. */
    int operate(int h, int op) {
      if (heap.kind(op) != Heap.OBJECT) return 0;
      int name = memberOf(op, 0);
      int way = memberOf(op, 1);
      int value = memberOf(op, 3);
      if (name == 0 || way == 0 || heap.kind(way) != Heap.STRING) return 0;
      int n = pointer(way, path);
      if (n < 0) return 0;
      boolean moves = heap.has(name, "move");
      if (moves || heap.has(name, "copy")) {
        int start = memberOf(op, 2);
        int m = start == 0 || heap.kind(start) != Heap.STRING ? -1 : pointer(start, from);
        value = m < 0 ? 0 : find(h, from, m);
        if (value == 0) return 0;
        return moves ? moved(h, m, n, value) : edit(h, 0, n, 0, value);
      }
      if (heap.has(name, "remove")) return n == 0 ? 0 : edit(h, 0, n, 1, 0);
      if (value == 0) return 0;
      if (heap.has(name, "add")) return edit(h, 0, n, 0, value);
      if (heap.has(name, "replace")) return edit(h, 0, n, 2, value);
      if (!heap.has(name, "test")) return 0;
      int there = find(h, path, n);
      return there != 0 && heap.equal(there, value) ? h : 0;
    }

    /** What is at from, m names long, goes to path, n names long. */
    int moved(int h, int m, int n, int value) {
      if (m == 0) return 0;
      boolean within = m < n;
      for (int i = 0; i < m && within; i++) within = heap.equal(from[i], path[i]);
      if (within) return 0;
      for (int i = 0; i < STEPS; i++) {
        int step = path[i];
        path[i] = from[i];
        from[i] = step;
      }
      int rest = edit(h, 0, m, 1, 0);
      for (int i = 0; i < STEPS; i++) path[i] = from[i];
      return rest <= 0 ? rest : edit(rest, 0, n, 0, value);
    }

    /** The names of a pointer: how many, -1 if it is none. More than a value is deep lead nowhere. */
    int pointer(int s, int[] row) {
      int end = s + 1 + heap.size(s);
      int at = s + 1;
      int n = 0;
      while (at < end) {
        if (heap.cell[at] != '/' || n >= STEPS) return -1;
        at++;
        texts.size = 0;
        while (at < end && heap.cell[at] != '/') {
          int c = heap.cell[at];
          at++;
          if (c == '~') {
            if (at >= end || heap.cell[at] != '0' && heap.cell[at] != '1') return -1;
            c = heap.cell[at] == '0' ? '~' : '/';
            at++;
          }
          texts.keep(c);
        }
        if (texts.size >= Heap.HEAVY) return -1;
        row[n] = heap.newString(texts.buf, 0, texts.size);
        n++;
      }
      return n;
    }

    /** The place that a name tells in an array or object, or -1. */
    int placeIn(int h, int name) {
      if (heap.kind(h) == Heap.OBJECT) return heap.find(h, name);
      int n = heap.size(name);
      if (heap.kind(h) != Heap.ARRAY || n == 0 || n > 6) return -1;
      if (n > 1 && heap.cell[name + 1] == '0') return -1;
      int at = 0;
      for (int i = 0; i < n; i++) {
        int c = heap.cell[name + 1 + i];
        if (!Texts.isDigit(c)) return -1;
        at = at * 10 + c - '0';
      }
      return at;
    }

    int find(int h, int[] steps, int n) {
      int v = h;
      for (int i = 0; i < n; i++) {
        int at = placeIn(v, steps[i]);
        if (at < 0 || at >= heap.size(v)) return 0;
        v = heap.item(v, at);
      }
      return v;
    }

    /** Kind 0 adds, 1 removes, 2 replaces at the path: the value then, or 0. */
    private int edit(int h, int i, int n, int kind, int value) {
      if (i >= n) return value;
      if (heap.kind(h) != Heap.OBJECT && heap.kind(h) != Heap.ARRAY) return 0;
      boolean last = i == n - 1;
      int size = heap.size(h);
      boolean array = heap.kind(h) == Heap.ARRAY;
      int at = last && array && kind == 0 && heap.has(path[i], "-") ? size : placeIn(h, path[i]);
      boolean there = at >= 0 && at < size;
      if (last && kind == 0) {
        if (array && (at < 0 || at > size)) return 0;
      } else if (!there) {
        return 0;
      }
      int v = last ? value : edit(heap.item(h, at), i + 1, n, kind, value);
      if (!last && v <= 0) return v;
      boolean inserts = last && kind == 0 && array;
      boolean removes = last && kind == 1;
      int base = heap.used;
      for (int k = 0; k < size; k++) {
        if (k == at && array && !removes) heap.push(v);
        if (k == at && !inserts) continue;
        if (!array) heap.push(heap.cell[h + 2 + 2 * k]);
        heap.push(heap.item(h, k));
      }
      if (inserts && at >= size) heap.push(v);
      if (!array && !removes) {
        heap.push(path[i]);
        heap.push(v);
      }
      return heap.made(array ? Heap.ARRAY : Heap.OBJECT, base, true);
    }
  }

  /** Built-ins of strings, and their patterns, which become programs that are gone through at once. */
  static final class Strings {
    static final int BYTE = 1;
    static final int CLASS = 2;
    static final int START = 3;
    static final int STOP = 4;
    static final int SPLIT = 5;
    static final int JUMP = 6;
    static final int MATCH = 7;
    static final int DEAD = 8;
    static final int PROGRAM = 16400;
    static final int SETS = 2100;
    static final int PARTS = 300;
    static final long MANY = 1000000000L;
    final Heap heap;
    final Texts texts;
    final Names names;
    final int[] buf = new int[4004];
    int size = 0;
    boolean over = false;
    final int[] code = new int[PROGRAM];
    final int[] jump = new int[PROGRAM];
    final int[] mark = new int[PROGRAM];
    final int[] here = new int[PROGRAM];
    final int[] there = new int[PROGRAM];
    final int[] stack = new int[PROGRAM];
    int length = 0;
    final int[] sets = new int[8 * SETS];
    int count = 0;
    int pos = 0;
    int end = 0;
    boolean bad = false;
    int threads = 0;

    Strings(Heap heap, Texts texts, Names names) {
      this.heap = heap;
      this.texts = texts;
      this.names = names;
    }

    void begin() {
      size = 0;
      over = false;
    }

    void put(int c) {
      if (size < Heap.HEAVY) {
        buf[size] = c;
        size++;
      } else {
        over = true;
      }
    }

    void putAll(int s, int from, int to) {
      for (int i = from; i < to && !over; i++) put(heap.cell[s + 1 + i]);
    }

    void putString(int s) {
      for (int i = 0; i < heap.size(s) && !over; i++) put(heap.cell[s + 1 + i]);
    }

    int made() {
      return over ? Heap.BIG : heap.newString(buf, 0, size);
    }

    int part(int s, int from, int to) {
      return heap.newString(heap.cell, s + 1 + from, Math.max(to - from, 0));
    }

    boolean isAt(int s, int at, int what) {
      int n = heap.size(what);
      if (at < 0 || at + n > heap.size(s)) return false;
      for (int i = 0; i < n; i++) {
        if (heap.cell[s + 1 + at + i] != heap.cell[what + 1 + i]) return false;
      }
      return true;
    }

    /** The first place from one on, or -1. */
    int find(int s, int what, int from) {
      for (int i = from; i + heap.size(what) <= heap.size(s); i++) {
        if (isAt(s, i, what)) return i;
      }
      return -1;
    }

    boolean hasByte(int s, int c) {
      for (int i = 0; i < heap.size(s); i++) {
        if (heap.cell[s + 1 + i] == c) return true;
      }
      return false;
    }

    int call(int id, int[] arg) {
      int s = arg[0];
      int x = arg[1];
      begin();
      switch (id) {
        case 11:
          return concat(s, x);
        case 12:
          return heap.truth(find(s, x, 0) >= 0);
        case 13:
          return heap.truth(isAt(s, 0, x));
        case 14:
          return heap.truth(isAt(s, heap.size(s) - heap.size(x), x));
        case 15:
          return heap.newNumber(find(s, x, 0) * Heap.ONE);
        case 16:
        case 17:
          return cased(s, id == 16 ? 'A' : 'a');
        case 18:
          return replaced(s, x, arg[2]);
        case 19:
          return split(s, x);
        case 20:
          for (int i = heap.size(s); i > 0; i--) put(heap.cell[s + i]);
          return made();
        case 21:
          return substring(s, heap.number(x) / Heap.ONE, heap.number(arg[2]) / Heap.ONE);
        case 28:
          return heap.size(x) == 0 ? 0 : heap.newNumber(countOf(s, x) * Heap.ONE);
        case 29:
          return inBase(heap.number(s), heap.number(x) / Heap.ONE);
        case 30:
          return toNumber(s);
        default:
          return trimmed(id, s, x);
      }
    }

    int concat(int between, int row) {
      for (int i = 0; i < heap.size(row); i++) {
        if (heap.kind(heap.item(row, i)) != Heap.STRING) return 0;
      }
      for (int i = 0; i < heap.size(row) && !over; i++) {
        if (i > 0) putString(between);
        putString(heap.item(row, i));
      }
      return made();
    }

    int cased(int s, int first) {
      for (int i = 0; i < heap.size(s); i++) {
        int c = heap.cell[s + 1 + i];
        put(c >= first && c < first + 26 ? c ^ 32 : c);
      }
      return made();
    }

    int replaced(int s, int what, int by) {
      int n = heap.size(what);
      if (n == 0) return 0;
      int at = 0;
      int next = find(s, what, 0);
      for (int i = 0; i < Heap.HEAVY && next >= 0 && !over; i++) {
        putAll(s, at, next);
        putString(by);
        at = next + n;
        next = find(s, what, at);
      }
      putAll(s, at, heap.size(s));
      return made();
    }

    int split(int s, int by) {
      int base = heap.used;
      int n = heap.size(by);
      int at = 0;
      if (n == 0) {
        for (int i = 0; i < heap.size(s); i++) heap.push(part(s, i, i + 1));
        return heap.made(Heap.ARRAY, base, false);
      }
      int next = find(s, by, 0);
      for (int i = 0; i < Heap.HEAVY && next >= 0; i++) {
        heap.push(part(s, at, next));
        at = next + n;
        next = find(s, by, at);
      }
      heap.push(part(s, at, heap.size(s)));
      return heap.made(Heap.ARRAY, base, false);
    }

    int substring(int s, long from, long n) {
      if (from < 0) return 0;
      int all = heap.size(s);
      int start = (int) Math.min(from, all);
      int stop = n < 0 ? all : (int) Math.min(start + n, all);
      return part(s, start, stop);
    }

    long countOf(int s, int what) {
      long n = 0;
      int at = find(s, what, 0);
      for (int i = 0; i < Heap.HEAVY && at >= 0; i++) {
        n++;
        at = find(s, what, at + heap.size(what));
      }
      return n;
    }

    int inBase(long v, long base) {
      if (base != 2 && base != 8 && base != 10 && base != 16) return 0;
      putWhole(v, (int) base);
      return made();
    }

    void putWhole(long v, int base) {
      long all = Math.abs(v) / Heap.ONE;
      if (v < 0 && all > 0) put('-');
      texts.start(70);
      texts.putDigits(all, base);
      for (int i = 0; i < texts.length; i++) put(texts.out[i]);
    }

    int toNumber(int x) {
      int kind = heap.kind(x);
      if (kind == Heap.NUMBER) return x;
      if (kind < Heap.NUMBER) return heap.newNumber(kind == 2 ? Heap.ONE : 0);
      if (kind != Heap.STRING) return 0;
      int stop = x + 1 + heap.size(x);
      int wrong = texts.readNumber(heap.cell, x + 1, stop);
      return wrong >= 0 || texts.stop != stop ? 0 : heap.newNumber(texts.value);
    }

    int sprintf(int s, int row) {
      begin();
      int n = heap.size(s);
      int used = 0;
      for (int i = 0; i < n; i++) {
        int c = heap.cell[s + 1 + i];
        if (c != '%') {
          put(c);
          continue;
        }
        i++;
        int how = i < n ? heap.cell[s + 1 + i] : 0;
        if (how == '%') {
          put(how);
        } else {
          if (used >= heap.size(row) || !putFormatted(how, heap.item(row, used))) return 0;
          used++;
        }
      }
      return used < heap.size(row) ? 0 : made();
    }

    boolean putFormatted(int how, int value) {
      int kind = heap.kind(value);
      if (how == 'd' || how == 'x') {
        if (kind == Heap.NUMBER) putWhole(heap.number(value), how == 'd' ? 10 : 16);
        return kind == Heap.NUMBER;
      }
      if (how != 's' && how != 'v') return false;
      if (kind == Heap.STRING) {
        putString(value);
      } else if (how == 'v') {
        texts.start(Heap.HEAVY);
        texts.show(value, false, 0);
        for (int i = 0; i < texts.length; i++) put(texts.out[i]);
        over = over || texts.over;
      }
      return how == 'v' || kind == Heap.STRING;
    }

    int trimmed(int id, int s, int x) {
      int from = 0;
      int to = heap.size(s);
      if (id == 25 && isAt(s, 0, x)) from = heap.size(x);
      if (id == 26 && isAt(s, to - heap.size(x), x)) to -= heap.size(x);
      boolean left = id == 22 || id == 23 || id == 27;
      boolean right = id == 22 || id == 24 || id == 27;
      while (left && from < to && isTrimmed(id, heap.cell[s + 1 + from], x)) from++;
      while (right && from < to && isTrimmed(id, heap.cell[s + to], x)) to--;
      return part(s, from, to);
    }

    boolean isTrimmed(int id, int c, int x) {
      return id == 27 ? c >= 9 && c <= 13 || c == 32 : hasByte(x, c);
    }

    int callMore(int id, int[] arg) {
      int s = arg[0];
      begin();
      switch (id) {
        case 51:
          return base64(s);
        case 52:
          return unbase64(s);
        case 53:
          for (int i = 0; i < heap.size(s); i++) putHex(heap.cell[s + 1 + i], false);
          return made();
        case 54:
          return unhex(s);
        case 55:
          return urlquery(s);
        case 56:
          return unurlquery(s);
        case 59:
          return regexMatch(s, arg[1]);
        case 61:
          return cidr(s, arg[1]);
        case 62:
          return heap.truth(isVersion(s));
        case 63:
          return compareVersions(s, arg[1]);
        default:
          return bytesOf(s);
      }
    }

    void putHex(int c, boolean great) {
      String digits = great ? "0123456789ABCDEF" : "0123456789abcdef";
      put(digits.charAt(c >> 4 & 15));
      put(digits.charAt(c & 15));
    }

    static char sixBits(int v) {
      if (v < 26) return (char) ('A' + v);
      if (v < 52) return (char) ('a' + v - 26);
      if (v < 62) return (char) ('0' + v - 52);
      return v == 62 ? '+' : '/';
    }

    static int bitsOf(int c) {
      if (c >= 'A' && c <= 'Z') return c - 'A';
      if (c >= 'a' && c <= 'z') return c - 'a' + 26;
      if (Texts.isDigit(c)) return c - '0' + 52;
      return c == '+' ? 62 : c == '/' ? 63 : -1;
    }

    int base64(int s) {
      int n = heap.size(s);
      for (int i = 0; i < n && !over; i += 3) {
        int all = 0;
        for (int k = 0; k < 3; k++) all = all << 8 | (i + k < n ? heap.cell[s + 1 + i + k] : 0);
        for (int k = 0; k < 4; k++) put(i + k > n ? '=' : sixBits(all >> 18 - 6 * k & 63));
      }
      return made();
    }

    int unbase64(int s) {
      int n = heap.size(s);
      if (n % 4 != 0) return 0;
      for (int i = 0; i < n; i += 4) {
        int all = 0;
        int signs = 4;
        for (int k = 0; k < 4; k++) {
          int c = heap.cell[s + 1 + i + k];
          int v = bitsOf(c);
          if (c == '=' && i + 4 == n && k >= 2) signs = Math.min(signs, k);
          else if (v < 0 || signs < 4) return 0;
          all = all << 6 | Math.max(v, 0);
        }
        if (signs == 2 && (all & 0xffff) != 0 || signs == 3 && (all & 0xff) != 0) return 0;
        for (int k = 0; k < signs - 1; k++) put(all >> 16 - 8 * k & 255);
      }
      return made();
    }

    int unhex(int s) {
      int n = heap.size(s);
      if (n % 2 != 0) return 0;
      for (int i = 0; i < n; i += 2) {
        int high = Texts.hexDigit(heap.cell[s + 1 + i]);
        int low = Texts.hexDigit(heap.cell[s + 2 + i]);
        if (high < 0 || low < 0) return 0;
        put(high * 16 + low);
      }
      return made();
    }

    int urlquery(int s) {
      for (int i = 0; i < heap.size(s); i++) {
        int c = heap.cell[s + 1 + i];
        boolean stays = Texts.isLetter(c) || Texts.isDigit(c) || c == '-' || c == '_' || c == '.'
            || c == '~';
        if (stays || c == 32) {
          put(c == 32 ? '+' : c);
        } else {
          put('%');
          putHex(c, true);
        }
      }
      return made();
    }

    int unurlquery(int s) {
      int n = heap.size(s);
      for (int i = 0; i < n; i++) {
        int c = heap.cell[s + 1 + i];
        if (c == '%') {
          if (i + 2 >= n) return 0;
          int high = Texts.hexDigit(heap.cell[s + 2 + i]);
          int low = Texts.hexDigit(heap.cell[s + 3 + i]);
          if (high < 0 || low < 0) return 0;
          put(high * 16 + low);
          i += 2;
        } else {
          put(c == '+' ? 32 : c);
        }
      }
      return made();
    }

    int byteAt(int i) {
      return i < end ? heap.cell[i] : -1;
    }

    /** A number 0 .. most at pos without a 0 ahead, or -1. */
    int smallNumber(int most) {
      int from = pos;
      int v = 0;
      while (pos < end && pos < from + 4 && Texts.isDigit(heap.cell[pos])) {
        v = v * 10 + heap.cell[pos] - '0';
        pos++;
      }
      boolean right = pos > from && v <= most && (pos == from + 1 || heap.cell[from] != '0');
      return right ? v : -1;
    }

    /** An address, and behind it the bits of its network; -1 if it is none. */
    long network(int s, boolean needsBits) {
      pos = s + 1;
      end = pos + heap.size(s);
      long all = 0;
      for (int i = 0; i < 4; i++) {
        if (i > 0 && byteAt(pos) != '.') return -1;
        if (i > 0) pos++;
        int v = smallNumber(255);
        if (v < 0) return -1;
        all = all << 8 | v;
      }
      int bits = 32;
      if (byteAt(pos) == '/') {
        pos++;
        bits = smallNumber(32);
      } else if (needsBits) {
        return -1;
      }
      return bits < 0 || pos != end ? -1 : all << 6 | bits;
    }

    int cidr(int s, int x) {
      long net = network(s, true);
      long other = network(x, false);
      if (net < 0 || other < 0) return 0;
      long bits = net & 63;
      int rest = (int) (32 - bits);
      boolean same = net >> 6 >> rest == other >> 6 >> rest;
      return heap.truth(same && (other & 63) >= bits);
    }

    /** Whether identifiers stand at pos; strict: digits alone have no 0 ahead. */
    boolean takesIdentifiers(boolean strict) {
      for (int n = 0; n < Heap.HEAVY; n++) {
        int from = pos;
        boolean digits = true;
        for (; pos < end && isIdentifier(heap.cell[pos]); pos++) {
          digits = digits && Texts.isDigit(heap.cell[pos]);
        }
        if (pos == from) return false;
        if (strict && digits && pos > from + 1 && heap.cell[from] == '0') return false;
        if (byteAt(pos) != '.') return true;
        pos++;
      }
      return false;
    }

    static boolean isIdentifier(int c) {
      return c >= '0' && c <= '9' || c >= 'A' && c <= 'Z' || c >= 'a' && c <= 'z' || c == '-';
    }

    boolean isVersion(int s) {
      pos = s + 1;
      end = pos + heap.size(s);
      for (int i = 0; i < 3; i++) {
        if (i > 0 && byteAt(pos) != '.') return false;
        if (i > 0) pos++;
        int from = pos;
        while (pos < end && Texts.isDigit(heap.cell[pos])) pos++;
        if (pos == from || pos > from + 1 && heap.cell[from] == '0') return false;
      }
      if (byteAt(pos) == '-') {
        pos++;
        if (!takesIdentifiers(true)) return false;
      }
      if (byteAt(pos) == '+') {
        pos++;
        if (!takesIdentifiers(false)) return false;
      }
      return pos == end;
    }

    /** The place behind the row of identifier signs, or digits, from a place on. */
    int behind(int from, int stop, boolean digits) {
      int p = from;
      while (p < stop && (digits ? Texts.isDigit(heap.cell[p]) : isIdentifier(heap.cell[p]))) p++;
      return p;
    }

    int compareVersions(int s, int x) {
      if (!isVersion(s) || !isVersion(x)) return 0;
      int stop = s + 1 + heap.size(s);
      int halt = x + 1 + heap.size(x);
      int p = s + 1;
      int q = x + 1;
      int c = 0;
      for (int i = 0; i < 3 && c == 0; i++) {
        int a = behind(p, stop, true);
        int b = behind(q, halt, true);
        c = comparePart(p, a, q, b);
        p = i < 2 ? a + 1 : a;
        q = i < 2 ? b + 1 : b;
      }
      boolean more = p < stop && heap.cell[p] == '-';
      boolean other = q < halt && heap.cell[q] == '-';
      if (c == 0 && more != other) c = more ? -1 : 1;
      for (int i = 0; i < Heap.HEAVY && c == 0 && more && other; i++) {
        int a = behind(p + 1, stop, false);
        int b = behind(q + 1, halt, false);
        c = comparePart(p + 1, a, q + 1, b);
        more = a < stop && heap.cell[a] == '.';
        other = b < halt && heap.cell[b] == '.';
        if (c == 0 && more != other) c = more ? 1 : -1;
        p = a;
        q = b;
      }
      return heap.newNumber(Integer.compare(c, 0) * Heap.ONE);
    }

    int comparePart(int p, int a, int q, int b) {
      boolean number = behind(p, a, true) == a;
      boolean other = behind(q, b, true) == b;
      if (number != other) return number ? -1 : 1;
      if (number && a - p != b - q) return Integer.compare(a - p, b - q);
      for (int i = 0; p + i < a && q + i < b; i++) {
        if (heap.cell[p + i] != heap.cell[q + i]) {
          return Integer.compare(heap.cell[p + i], heap.cell[q + i]);
        }
      }
      return Integer.compare(a - p, b - q);
    }

    int bytesOf(int s) {
      pos = s + 1;
      end = pos + heap.size(s);
      long most = Heap.MOST / Heap.ONE;
      long whole = 0;
      long part = 0;
      int from = pos;
      for (; pos < end && Texts.isDigit(heap.cell[pos]); pos++) {
        whole = Math.min(whole * 10 + heap.cell[pos] - '0', most * 2);
      }
      if (pos == from) return 0;
      if (byteAt(pos) == '.') {
        pos++;
        from = pos;
        for (; pos < end && pos < from + 6 && Texts.isDigit(heap.cell[pos]); pos++) {
          part = part * 10 + heap.cell[pos] - '0';
        }
        if (pos == from) return 0;
        for (int i = pos - from; i < 6; i++) part *= 10;
      }
      long unit = unit();
      if (unit == 0 || whole > most / unit) return 0;
      return heap.bounded(whole * unit + part * unit / Heap.ONE > most ? Heap.MOST + 1
          : (whole * unit + part * unit / Heap.ONE) * Heap.ONE);
    }

    /** The unit at pos, up to the end; 0 if there is none such. */
    long unit() {
      if (pos == end) return 1;
      if (heap.cell[pos] == 32) {
        pos++;
        if (pos == end) return 0;
      }
      int n = end - pos;
      int first = byteAt(pos) | 32;
      int power = first == 'k' ? 1 : first == 'm' ? 2 : first == 'g' ? 3 : 0;
      if (!Texts.isLetter(byteAt(pos)) || power == 0 && first != 'b') return 0;
      if (power == 0) return n == 1 ? 1 : 0;
      boolean binary = n > 1 && (byteAt(pos + 1) == 'i' || byteAt(pos + 1) == 'I');
      int rest = pos + (binary ? 2 : 1);
      boolean right = rest == end
          || rest == end - 1 && (byteAt(rest) == 'b' || byteAt(rest) == 'B');
      if (!right) return 0;
      long unit = 1;
      for (int i = 0; i < power; i++) unit *= binary ? 1024 : 1000;
      return unit;
    }

    void emit(int op, int to) {
      if (length >= PROGRAM) return;
      code[length] = op;
      jump[length] = to;
      length++;
    }

    /** An empty set of bytes: its number. The last one serves all that a pattern has too many. */
    int newSet() {
      int set = Math.min(count, SETS - 1);
      count = set + 1;
      for (int i = 0; i < 8; i++) sets[set * 8 + i] = 0;
      return set;
    }

    void include(int set, int c) {
      sets[set * 8 + (c >> 5 & 7)] |= 1 << (c & 31);
    }

    void includeAll(int set, int from, int to) {
      for (int c = from; c <= to; c++) sets[set * 8 + (c >> 5 & 7)] |= 1 << (c & 31);
    }

    void complement(int set) {
      for (int i = 0; i < 8; i++) sets[set * 8 + i] = ~sets[set * 8 + i];
    }

    void startPattern(int s) {
      pos = s + 1;
      end = pos + heap.size(s);
      length = 0;
      count = 0;
      bad = false;
    }

    int regexMatch(int s, int text) {
      startPattern(s);
      long parts = alternatives(0);
      if (bad || pos < end || parts > PARTS) return 0;
      emit(MATCH, 0);
      return heap.truth(isMatching(text, false));
    }

    /** Writes what stands up to a ) or the end: how many parts. */
    private long alternatives(int deep) {
      long parts = 0;
      int chain = -1;
      for (int n = 0; n < Heap.HEAVY; n++) {
        int start = length;
        emit(SPLIT, 1);
        parts += sequence(deep);
        boolean more = !bad && byteAt(pos) == '|';
        if (n == 0 && !more) return parts;
        int last = length;
        emit(JUMP, chain);
        if (start < PROGRAM && length < PROGRAM) jump[start] = length - start;
        chain = last;
        if (!more) break;
        pos++;
        parts++;
      }
      emit(DEAD, 0);
      for (int i = 0; i < Heap.HEAVY && chain >= 0 && chain < PROGRAM; i++) {
        int before = jump[chain];
        jump[chain] = length - chain;
        chain = before;
      }
      return parts;
    }

    private long sequence(int deep) {
      long parts = 0;
      for (int n = 0; n < Heap.HEAVY && !bad && pos < end; n++) {
        if (byteAt(pos) == '|' || byteAt(pos) == ')') break;
        int start = length;
        int named = count;
        long one = atom(deep);
        if (bad) break;
        long all = repeats(start, one);
        parts = Math.min(parts + all, MANY);
        // What has no part is empty: its code, however long it has become, must leave the room.
        if (all == 0) {
          length = start;
          count = named;
        }
      }
      return parts;
    }

    private long atom(int deep) {
      int c = byteAt(pos);
      pos++;
      if (c == '(') {
        if (deep >= 5) bad = true;
        long parts = bad ? 0 : alternatives(deep + 1);
        if (byteAt(pos) != ')') bad = true;
        pos++;
        return parts;
      }
      if (c == '^' || c == '$') {
        emit(c == '^' ? START : STOP, 0);
      } else if (c == '.') {
        int set = newSet();
        include(set, 10);
        complement(set);
        emit(CLASS, set);
      } else if (c == '[') {
        emit(CLASS, regexSet());
      } else if (c == '\\') {
        int e = byteAt(pos);
        pos++;
        if (isSpecial(e)) emit(BYTE, e);
        else emit(CLASS, addNamed(newSet(), e));
      } else {
        if (isSpecial(c)) bad = true;
        emit(BYTE, c);
      }
      return 1;
    }

    static boolean isSpecial(int c) {
      return c >= 0 && "\\^$.[]|()?*+{}".indexOf((char) c) >= 0;
    }

    /** Adds the bytes of \d \w \s \D \W \S. */
    int addNamed(int set, int e) {
      int letter = e | 32;
      boolean not = e == 'D' || e == 'W' || e == 'S';
      if (e < 0 || !not && e != 'd' && e != 'w' && e != 's') {
        bad = true;
        return set;
      }
      int named = newSet();
      if (letter == 's') {
        includeAll(named, 9, 10);
        includeAll(named, 12, 13);
        include(named, 32);
      } else {
        includeAll(named, '0', '9');
      }
      if (letter == 'w') {
        includeAll(named, 'a', 'z');
        includeAll(named, 'A', 'Z');
        include(named, '_');
      }
      if (not) complement(named);
      for (int i = 0; i < 8; i++) sets[set * 8 + i] |= sets[named * 8 + i];
      count = Math.min(count, named);
      return set;
    }

    int regexSet() {
      int set = newSet();
      boolean not = byteAt(pos) == '^';
      if (not) pos++;
      int items = 0;
      for (int n = 0; n < Heap.HEAVY && !bad && pos < end && byteAt(pos) != ']'; n++) {
        items++;
        boolean named = byteAt(pos) == '\\' && !isSpecial(byteAt(pos + 1))
            && byteAt(pos + 1) != '-';
        if (named) {
          addNamed(set, byteAt(pos + 1));
          pos += 2;
          continue;
        }
        int from = setByte();
        int to = from;
        if (byteAt(pos) == '-') {
          pos++;
          to = pos < end && byteAt(pos) != ']' ? setByte() : -1;
        }
        if (to < from) bad = true;
        else includeAll(set, from, to);
      }
      if (items == 0 || pos >= end) bad = true;
      pos++;
      if (not) complement(set);
      return set;
    }

    /** A byte of a set, itself or behind a \; -1 where there is none such. */
    int setByte() {
      int c = byteAt(pos);
      pos++;
      if (c == '-') bad = true;
      if (c != '\\') return c;
      int e = byteAt(pos);
      pos++;
      if (isSpecial(e) || e == '-') return e;
      bad = true;
      return -1;
    }

    /** Perhaps * + ? { } behind what was written from start on: its parts then. */
    long repeats(int start, long parts) {
      int c = byteAt(pos);
      if (c != '*' && c != '+' && c != '?' && c != '{') return parts;
      pos++;
      int least = c == '+' ? 1 : 0;
      int most = c == '?' ? 1 : -1;
      if (c == '{') {
        least = smallNumber(20);
        most = least;
        boolean open = false;
        if (byteAt(pos) == ',') {
          pos++;
          open = byteAt(pos) == '}';
          most = open ? -1 : smallNumber(20);
        }
        if (byteAt(pos) != '}' || least < 0 || !open && most < least) bad = true;
        pos++;
      }
      int next = byteAt(pos);
      if (next == '*' || next == '+' || next == '?' || next == '{') bad = true;
      if (bad) return parts;
      writeRepeats(start, c == '+' ? 0 : least, most, c == '+');
      if (c == '+') return parts + 1;
      long all = most < 0 ? (least + 1) * parts + 1 : most * parts + most - least;
      return Math.min(all, MANY);
    }

    void writeRepeats(int start, int least, int most, boolean plus) {
      int n = length - start;
      if (plus) {
        emit(SPLIT, -n);
        return;
      }
      System.arraycopy(code, start, here, 0, n);
      System.arraycopy(jump, start, there, 0, n);
      length = start;
      int copies = most < 0 ? least + 1 : most;
      for (int i = 0; i < copies && length < PROGRAM; i++) {
        boolean last = most < 0 && i == copies - 1;
        boolean maybe = i >= least;
        if (maybe) emit(SPLIT, last ? n + 2 : n + 1);
        for (int k = 0; k < n; k++) emit(here[k], there[k]);
        if (last) emit(JUMP, -n - 1);
      }
    }

    /** Whether a program is somewhere in a text, or all of it. */
    boolean isMatching(int text, boolean whole) {
      int n = heap.size(text);
      for (int i = 0; i < length; i++) mark[i] = -1;
      threads = 0;
      int[] now = here;
      int[] then = there;
      for (int i = 0; i <= n; i++) {
        if ((i == 0 || !whole) && reach(now, 0, i, n) && (!whole || i == n)) return true;
        int alive = threads;
        threads = 0;
        if (i == n || whole && alive == 0) return false;
        int c = heap.cell[text + 1 + i];
        for (int k = 0; k < alive; k++) {
          int at = now[k];
          boolean goes = code[at] == BYTE ? jump[at] == c
              : (sets[jump[at] * 8 + (c >> 5 & 7)] >>> (c & 31) & 1) != 0;
          if (goes && reach(then, at + 1, i + 1, n) && (!whole || i + 1 == n)) return true;
        }
        int[] swap = now;
        now = then;
        then = swap;
      }
      return false;
    }

    /** Adds the threads that go on from a place of the program; whether one is at its end. */
    boolean reach(int[] list, int from, int i, int n) {
      int high = 1;
      stack[0] = from;
      boolean ends = false;
      for (int k = 0; k < 4 * PROGRAM && high > 0; k++) {
        high--;
        int at = stack[high];
        if (at < 0 || at >= length || mark[at] == i) continue;
        mark[at] = i;
        int op = code[at];
        boolean on = op == SPLIT || op == START && i == 0 || op == STOP && i == n;
        if (op == MATCH) ends = true;
        if (op == BYTE || op == CLASS) {
          list[threads] = at;
          threads++;
        }
        if (on && high < PROGRAM - 2) {
          stack[high] = at + 1;
          high++;
        }
        if ((op == SPLIT || op == JUMP) && high < PROGRAM - 2) {
          stack[high] = at + jump[at];
          high++;
        }
      }
      return ends;
    }

    int globMatch(int s, int row, int text) {
      if (heap.kind(row) != 0 && heap.kind(row) != Heap.ARRAY) return 0;
      startPattern(s);
      delimiters(row);
      for (int n = 0; n < Heap.HEAVY && !bad && pos < end; n++) {
        if (byteAt(pos) == '{') globChoice();
        else globItem();
      }
      emit(MATCH, 0);
      return bad ? 0 : heap.truth(isMatching(text, true));
    }

    /** Set 0 has all bytes but the delimiters, set 1 all. */
    void delimiters(int row) {
      int set = newSet();
      if (heap.kind(row) == 0) include(set, '.');
      for (int i = 0; heap.kind(row) != 0 && i < heap.size(row); i++) {
        int e = heap.item(row, i);
        if (heap.kind(e) == Heap.STRING && heap.size(e) == 1) include(set, heap.cell[e + 1]);
      }
      complement(set);
      complement(newSet());
    }

    void globItem() {
      int c = byteAt(pos);
      pos++;
      if (c == '*') {
        int set = byteAt(pos) == '*' ? 1 : 0;
        pos += set;
        emit(SPLIT, 3);
        emit(CLASS, set);
        emit(JUMP, -2);
      } else if (c == '?') {
        emit(CLASS, 0);
      } else if (c == '[') {
        emit(CLASS, globSet());
      } else if (c == '\\') {
        if (pos >= end) bad = true;
        emit(BYTE, byteAt(pos));
        pos++;
      } else {
        emit(BYTE, c);
      }
    }

    int globSet() {
      int set = newSet();
      boolean not = byteAt(pos) == '!';
      if (not) pos++;
      int from = pos;
      for (int n = 0; n < Heap.HEAVY && !bad && pos < end && byteAt(pos) != ']'; n++) {
        int a = byteAt(pos);
        int b = a;
        boolean range = byteAt(pos + 1) == '-' && byteAt(pos + 2) >= 0 && byteAt(pos + 2) != ']';
        if (range) b = byteAt(pos + 2);
        pos += range ? 3 : 1;
        if (b < a) bad = true;
        includeAll(set, a, b);
      }
      if (pos >= end || pos == from) bad = true;
      pos++;
      if (not) complement(set);
      return set;
    }

    void globChoice() {
      int chain = -1;
      int start = length;
      pos++;
      emit(SPLIT, 1);
      for (int n = 0; n < Heap.HEAVY && !bad && pos < end && byteAt(pos) != '}'; n++) {
        int c = byteAt(pos);
        if (c == '{') bad = true;
        if (c == ',') {
          pos++;
          emit(JUMP, chain);
          chain = length - 1;
          if (start < PROGRAM) jump[start] = length - start;
          start = length;
          emit(SPLIT, 1);
        } else {
          globItem();
        }
      }
      if (pos >= end) bad = true;
      pos++;
      for (int i = 0; i < Heap.HEAVY && chain >= 0; i++) {
        int before = jump[chain];
        jump[chain] = length - chain;
        chain = before;
      }
    }
  }

}
