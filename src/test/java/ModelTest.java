import java.lang.reflect.Method;
import java.util.HashMap;
import java.util.Map;
import java.util.Random;
import java.util.TreeMap;

/** Random runs of calls, each answered by the class and by the model of it; the seeds are fixed. */
public final class ModelTest {
  // One letter an argument: see argument().
  private static final String[] CALLS = {
    "fault w", "told h", "cart c w", "heaps d", "heap d i", "all d", "many d t", "sorts d", "spread d",
    "odd d", "taken d", "gone d", "most", "peak", "same d", "still", "rows", "stair d", "stairs", "square d",
    "flip d i", "even d", "above d d", "tail d", "length d", "ring d", "later d s i", "soon d", "rowsOf n",
    "ringed n", "rings n", "gardens n", "longest n", "ahead q", "from q i", "way q", "bring d b", "latest b",
    "spare", "heights q h", "least q h", "greatest q h", "ask q h", "leaves q h", "laws q", "by l", "law",
    "worth z", "share c w", "wins d k", "moves d k", "move d k", "rests c c", "gets c c w w w", "chance d b w",
    "mean d w", "brings t d", "away d", "undo", "anew", "drawn e w", "luck e t b", "rate h t", "count v",
    "image w", "back w", "row q l y", "write q i x", "paste q i q i i", "end y", "moor"};

  private final Random random;
  private final TurfHeaps real = new TurfHeaps();
  private final Model model = new Model();
  private final StringBuilder told = new StringBuilder();
  private int days = 3;
  private static final Map<String, Method> REAL = new HashMap<>();
  private static final Map<String, Method> MODEL = new HashMap<>();
  private static final Map<String, Integer> ANSWERED = new TreeMap<>();

  private ModelTest(long seed) {
    random = new Random(seed);
  }

  private int up(int n) {
    return random.nextInt(n);
  }

  private long argument(char kind) {
    if (up(25) == 0) return new long[] {-1, -2, Integer.MAX_VALUE, Integer.MIN_VALUE, 64, 1000}[up(6)];
    switch (kind) {
      case 'd': return up(12) == 0 ? up(20) - 1 : up(days + 1);
      case 'i': return up(9) - (up(8) == 0 ? 1 : 0);
      case 'h': return up(up(4) == 0 ? 9 : 3);
      case 'c': return up(up(4) == 0 ? 7 : 3);
      case 'w': return up(up(8) == 0 ? 4 : 2);
      case 't': return 1 + up(up(6) == 0 ? 25 : 12);
      case 's': return up(4) == 0 ? up(505) : up(12);
      case 'n': return 1 + up(up(10) == 0 ? 16 : 9);
      case 'q': return up(up(10) == 0 ? 6 : 3);
      case 'b': return up(up(5) == 0 ? 33 : 10);
      case 'l': return up(up(10) == 0 ? 6 : 4);
      case 'z': return up(up(4) == 0 ? 70 : 8);
      case 'k': return up(6) == 0 ? up(703) : up(9);
      case 'e': return up(5) == 0 ? 2000000000 - 1 + up(3) : up(100000);
      case 'v': return up(10) - (up(12) == 0 ? 1 : 0);
      case 'y': return up(up(10) == 0 ? 63 : 12);
      case 'x': return up(6) == 0 ? random.nextLong() : up(4) == 0 ? up(800) : up(9);
      default: throw new IllegalStateException("no such argument: " + kind);
    }
  }

  private boolean same(String name, Object... values) {
    try {
      Object got = REAL.get(name).invoke(real, values);
      Object due = MODEL.get(name).invoke(model, values);
      if (told.length() < 20000) told.append(name).append(java.util.Arrays.toString(values)).append(' ').append(got).append('\n');
      ANSWERED.merge(name, ((Number) due).longValue() >= 0 ? 1 : 0, Integer::sum);
      if (got.equals(due)) return true;
      System.out.println(told);
      System.out.println(name + java.util.Arrays.toString(values) + " answered " + got + ", the model says " + due);
      return false;
    } catch (ReflectiveOperationException e) {
      System.out.println(told);
      System.out.println(name + java.util.Arrays.toString(values) + " failed: " + e.getCause());
      return false;
    }
  }

  private String text() {
    StringBuilder s = new StringBuilder();
    days = up(4) == 0 ? 1 + up(16) : 1 + up(8);
    s.append("moor days ").append(days).append(" law ").append(up(4)).append(" odds ").append(up(11)).append(";");
    int most = up(3) == 0 ? 20 : 7;
    for (int n = up(up(6) == 0 ? 9 : 5), i = 0; i < n; i++) s.append("heap of ").append(1 + up(most)).append(up(2) == 0 ? "; " : ";\n");
    for (int n = up(up(6) == 0 ? 7 : 4), i = 0; i < n; i++) {
      s.append("cart of ").append(1 + up(most)).append(" at ").append(up(6) == 0 ? up(16) : up(days + 1) % 16).append(";");
    }
    if (up(5) == 0) spoil(s);
    return s.toString();
  }

  private void spoil(StringBuilder s) {
    String[] bits = {";", " ", "\n", "moor ", "heap of 3;", "0", "99", "A", "\u00e4", "-", "at", "cart of 2 at 1;", "\t", "99999999999999999999"};
    for (int n = 1 + up(3); n > 0; n--) {
      int at = up(s.length() + 1);
      if (up(2) == 0 && at < s.length()) s.deleteCharAt(at);
      else s.insert(at, bits[up(bits.length)]);
    }
    if (up(3) == 0) s.setLength(up(s.length() + 1));
  }

  private boolean tell(String text) {
    boolean fine = same("end", 0);
    int[] v = new int[5];
    for (int p = 0; fine && p < text.length() && p < 480; p += 20) {
      for (int j = 0; j < 20; j++) {
        int b = p + j < text.length() ? text.charAt(p + j) : ' ';
        v[j / 4] = v[j / 4] << 8 | b;
      }
      fine = same("feed", v[0], v[1], v[2], v[3], v[4]);
    }
    fine = fine && same("end", Math.min(text.length(), 480)) && same("moor") && same("fault", 0) && same("fault", 1);
    return fine && same("count", 7);
  }

  /** A slot gets what was really there on some days, or heaps for ahead(). */
  private boolean fillSlot() {
    int slot = up(3);
    boolean seen = up(2) == 0;
    int n = seen ? 3 * up(3) : 1 + up(5);
    if (!same("row", slot, up(4), n)) return false;
    for (int i = 0; i < n; i++) {
      long v = 1 + up(4);
      if (seen) {
        int day = up(days + 1);
        if (!same("write", slot, i, (long) day)) return false;
        i++;
        if (!same("write", slot, i, (long) Math.max(0, model.heaps(day)))) return false;
        i++;
        v = up(8) == 0 ? up(5) : Math.max(0, model.heap(day, 0));
      }
      if (!same("write", slot, i, v)) return false;
    }
    for (String call : new String[] {"ahead", "way", "laws"}) if (!same(call, slot)) return false;
    for (String call : new String[] {"heights", "least", "greatest", "ask", "leaves"}) if (!same(call, slot, up(3))) return false;
    return same("from", slot, 0) && same("from", slot, up(5));
  }

  private boolean callOne() {
    String[] parts = CALLS[up(CALLS.length)].split(" ");
    Class<?>[] types = REAL.get(parts[0]).getParameterTypes();
    Object[] values = new Object[types.length];
    for (int i = 0; i < values.length; i++) {
      long v = argument(parts[i + 1].charAt(0));
      values[i] = types[i] == long.class ? (Object) v : (Object) (int) v;
    }
    if (parts[0].equals("moor") && up(4) != 0) return true;
    return same(parts[0], values);
  }

  private boolean run() {
    boolean fine = up(10) == 0 || tell(text());
    for (int i = 0; fine && i < 400; i++) {
      if (up(60) == 0) fine = tell(text());
      else if (up(25) == 0) fine = fillSlot();
      else fine = callOne();
    }
    return fine;
  }

  public static void main(String[] args) throws Exception {
    for (Method m : TurfHeaps.class.getMethods()) {
      if (m.getDeclaringClass() == TurfHeaps.class) {
        REAL.put(m.getName(), m);
        MODEL.put(m.getName(), Model.class.getMethod(m.getName(), m.getParameterTypes()));
      }
    }
    int runs = args.length > 0 ? Integer.parseInt(args[0]) : 400;
    long first = args.length > 1 ? Long.parseLong(args[1]) : 1;
    int wrong = 0;
    for (long seed = first; seed < first + runs && wrong < 3; seed++) {
      if (!new ModelTest(seed).run()) {
        System.out.println("of seed " + seed);
        wrong++;
      }
    }
    for (String name : REAL.keySet()) {
      // Higher or more heaps never lead to fewer, by no law: no cart can be spared, so spare() is NONE.
      if (!name.equals("spare") && runs >= 100 && ANSWERED.getOrDefault(name, 0) < 20) {
        System.out.println(name + " was hardly asked for: " + ANSWERED.get(name));
        wrong++;
      }
    }
    System.out.println(wrong == 0 ? "the class and the model agree" : wrong + " runs are not as due");
    if (wrong != 0) System.exit(1);
  }
}
