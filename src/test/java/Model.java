import java.math.BigInteger;
import java.util.ArrayList;
import java.util.Arrays;
import java.util.Collections;
import java.util.HashMap;
import java.util.HashSet;
import java.util.List;
import java.util.Map;
import java.util.Set;
import java.util.function.IntPredicate;
import java.util.regex.Matcher;
import java.util.regex.Pattern;

/**
 * The document told a second time, as slowly and plainly as it goes: lists instead of runs, maps of rows
 * instead of marks, all orders instead of weights. It shares nothing with the class, so that a slip in
 * one of them shows as a difference.
 */
public final class Model {
  static final int NONE = -1;

  static final class State {
    int days, law, odds, lines;
    List<Integer> told = new ArrayList<>();
    List<int[]> carts = new ArrayList<>();
    List<int[]> acts = new ArrayList<>(); // day, turfs (0: away)

    State copy() {
      State s = new State();
      s.days = days;
      s.law = law;
      s.odds = odds;
      s.lines = lines;
      s.told.addAll(told);
      for (int[] c : carts) s.carts.add(c.clone());
      for (int[] a : acts) s.acts.add(a.clone());
      return s;
    }
  }

  private String tape = "";
  private State m = new State();
  private int fault = 0, place = NONE;
  private final State[] images = new State[3];
  private final long[][] slots = new long[4][];
  private final int[] widths = new int[4];

  // ---- the text

  public int feed(int a, int b, int c, int d, int e) {
    if (tape.length() + 20 > 500) return NONE;
    StringBuilder s = new StringBuilder(tape);
    for (int v : new int[] {a, b, c, d, e}) {
      s.append((char) (v >>> 24)).append((char) (v >>> 16 & 255)).append((char) (v >>> 8 & 255)).append((char) (v & 255));
    }
    tape = s.toString();
    return tape.length();
  }

  public int end(int n) {
    if (n < 0 || n > tape.length()) return NONE;
    tape = tape.substring(0, n);
    return n;
  }

  private static final Pattern TOKEN = Pattern.compile("[ \n]*(?:([a-z]+)|([0-9]+)|(;)|([^ \n]))", Pattern.DOTALL);

  public int moor() {
    fault = 0;
    place = NONE;
    State s = new State();
    List<String> tokens = new ArrayList<>();
    List<Integer> places = new ArrayList<>();
    Matcher t = TOKEN.matcher(tape);
    while (t.find()) {
      for (int g = 1; g <= 4; g++) {
        if (t.group(g) != null) {
          tokens.add(t.group(g));
          places.add(t.start(g));
        }
      }
    }
    tokens.add("(end)");
    places.add(tape.length());
    int at = 0;
    while (!tokens.get(at).equals("(end)")) {
      String word = tokens.get(at);
      String form;
      if (s.lines == 0 && word.equals("moor")) form = "moor days 1-16 law 0-3 odds 0-10 ;";
      else if (s.lines > 0 && word.equals("heap")) form = "heap of 1-20 ;";
      else if (s.lines > 0 && word.equals("cart")) form = "cart of 1-20 at 0-15 ;";
      else return failed(1, places.get(at));
      if (word.equals("heap") && s.told.size() == 8) return failed(3, places.get(at));
      if (word.equals("cart") && s.carts.size() == 6) return failed(3, places.get(at));
      List<Integer> numbers = new ArrayList<>();
      for (String part : form.split(" ")) {
        String token = tokens.get(at);
        if (part.contains("-")) {
          if (!token.matches("[0-9]+")) return failed(1, places.get(at));
          BigInteger value = new BigInteger(token);
          String[] bounds = part.split("-");
          if (value.compareTo(new BigInteger(bounds[0])) < 0 || value.compareTo(new BigInteger(bounds[1])) > 0) {
            return failed(2, places.get(at));
          }
          numbers.add(value.intValue());
        } else if (!token.equals(part)) {
          return failed(1, places.get(at));
        }
        at++;
      }
      if (word.equals("moor")) {
        s.days = numbers.get(0);
        s.law = numbers.get(1);
        s.odds = numbers.get(2);
      } else if (word.equals("heap")) {
        s.told.add(numbers.get(0));
      } else {
        s.carts.add(new int[] {numbers.get(0), numbers.get(1)});
      }
      s.lines++;
    }
    m = s;
    tape = "";
    return m.lines;
  }

  private int failed(int what, int where) {
    fault = what;
    place = where;
    return -4;
  }

  public int fault(int what) {
    return what == 0 ? fault : what == 1 ? place : NONE;
  }

  public int told(int heap) {
    return heap < 0 || heap >= m.told.size() ? -2 : m.told.get(heap);
  }

  public int cart(int cart, int what) {
    return cart < 0 || cart >= m.carts.size() || what < 0 || what > 1 ? -2 : m.carts.get(cart)[what];
  }

  // ---- rows

  static List<Integer> sorted(List<Integer> heaps) {
    List<Integer> row = new ArrayList<>();
    for (int h : heaps) if (h > 0) row.add(h);
    row.sort(Collections.reverseOrder());
    return row;
  }

  /** The row a step on; what, if not null, gets turfs taken and heaps gone. */
  static List<Integer> step(List<Integer> row, int law, int[] what) {
    List<Integer> after = new ArrayList<>(row);
    int taken = 0;
    for (int i = 0; i < row.size(); i++) {
      int h = row.get(i);
      int off = 0;
      if (law == 0) off = 1;
      if (law == 1 && i > 0) off = 1;
      if (law == 2 && h >= 2) off = 1;
      if (law == 3) off = h >= 2 ? 2 : 1;
      after.set(i, h - off);
      taken += off;
    }
    if (what != null) {
      what[0] = taken;
      what[1] = Collections.frequency(after, 0);
    }
    after.add(taken);
    return sorted(after);
  }

  /** Rows of all days; wet by bits. */
  static List<List<Integer>> pass(State s, int wet) {
    List<List<Integer>> all = new ArrayList<>();
    List<Integer> row = new ArrayList<>(s.told);
    for (int d = 0; d <= s.days; d++) {
      if (d > 0 && (wet >> (d - 1) & 1) == 0) row = step(row, s.law, null);
      row = new ArrayList<>(row);
      for (int[] c : s.carts) if (c[1] == d) row.add(c[0]);
      for (int[] a : s.acts) if (a[0] == d && a[1] > 0) row.add(a[1]);
      row = sorted(row);
      for (int[] a : s.acts) if (a[0] == d && a[1] == 0 && !row.isEmpty()) row.remove(0);
      all.add(row);
    }
    return all;
  }

  static int last(State s) {
    return pass(s, 0).get(s.days).size();
  }

  private boolean none() {
    return m.lines == 0;
  }

  private boolean noDay(int day) {
    return none() || day < 0 || day > m.days;
  }

  private List<Integer> at(int day) {
    return pass(m, 0).get(day);
  }

  public int heaps(int day) {
    return noDay(day) ? -2 : at(day).size();
  }

  public int heap(int day, int i) {
    if (noDay(day) || i < 0) return -2;
    return i < at(day).size() ? at(day).get(i) : NONE;
  }

  static int sum(List<Integer> row) {
    int s = 0;
    for (int h : row) s += h;
    return s;
  }

  public int all(int day) {
    return noDay(day) ? -2 : sum(at(day));
  }

  public int many(int day, int n) {
    return noDay(day) || n < 1 || n > 700 ? -2 : Collections.frequency(at(day), n);
  }

  public int sorts(int day) {
    return noDay(day) ? -2 : new HashSet<>(at(day)).size();
  }

  public int spread(int day) {
    if (noDay(day)) return -2;
    return at(day).isEmpty() ? 0 : Collections.max(at(day)) - Collections.min(at(day));
  }

  private int counted(int day, IntPredicate which) {
    if (noDay(day)) return -2;
    int n = 0;
    for (int h : at(day)) if (which.test(h)) n++;
    return n;
  }

  public int odd(int day) {
    return counted(day, h -> (h & 1) == 1);
  }

  public int taken(int day) {
    if (noDay(day) || day == m.days) return -2;
    int[] what = new int[2];
    step(at(day), m.law, what);
    return what[0];
  }

  public int gone(int day) {
    if (noDay(day) || day == m.days) return -2;
    int[] what = new int[2];
    step(at(day), m.law, what);
    return what[1];
  }

  public int most() {
    if (none()) return -2;
    int best = 0;
    for (List<Integer> row : pass(m, 0)) best = Math.max(best, row.size());
    return best;
  }

  public int peak() {
    if (none()) return -2;
    int best = -1, day = -1;
    for (int d = 0; d <= m.days; d++) {
      int h = at(d).isEmpty() ? 0 : at(d).get(0);
      if (h > best) {
        best = h;
        day = d;
      }
    }
    return day;
  }

  public int same(int day) {
    return noDay(day) ? -2 : pass(m, 0).indexOf(at(day));
  }

  public int still() {
    if (none()) return -2;
    for (int d = 0; ; d++) {
      if (new HashSet<>(pass(m, 0).subList(d, m.days + 1)).size() == 1) return d;
    }
  }

  public int rows() {
    return none() ? -2 : new HashSet<>(pass(m, 0)).size();
  }

  static boolean isStair(List<Integer> row) {
    for (int i = 0; i < row.size(); i++) if (row.get(i) != row.size() - i) return false;
    return !row.isEmpty();
  }

  public int stair(int day) {
    return noDay(day) ? -2 : isStair(at(day)) ? 1 : 0;
  }

  public int stairs() {
    if (none()) return -2;
    for (int d = 0; d <= m.days; d++) if (isStair(at(d))) return d;
    return NONE;
  }

  public int square(int day) {
    if (noDay(day)) return -2;
    int best = 0;
    for (int k = 1; k <= 60; k++) {
      int kk = k;
      if (counted(day, h -> h >= kk) >= k) best = k;
    }
    return best;
  }

  static List<Integer> turned(List<Integer> row) {
    List<Integer> t = new ArrayList<>();
    for (int i = 1; !row.isEmpty() && i <= row.get(0); i++) {
      int n = 0;
      for (int h : row) if (h >= i) n++;
      t.add(n);
    }
    return t;
  }

  public int flip(int day, int i) {
    if (noDay(day) || i < 0) return -2;
    List<Integer> t = turned(at(day));
    return i < t.size() ? t.get(i) : NONE;
  }

  public int even(int day) {
    return noDay(day) ? -2 : turned(at(day)).equals(at(day)) ? 1 : 0;
  }

  static boolean isAbove(List<Integer> a, List<Integer> b) {
    for (int k = 1; k <= Math.max(a.size(), b.size()); k++) {
      if (sum(a.subList(0, Math.min(k, a.size()))) < sum(b.subList(0, Math.min(k, b.size())))) return false;
    }
    return true;
  }

  public int above(int day, int other) {
    if (noDay(day) || noDay(other)) return -2;
    List<Integer> a = at(day), b = at(other);
    if (sum(a) != sum(b)) return NONE;
    if (a.equals(b)) return 0;
    return isAbove(a, b) ? 1 : isAbove(b, a) ? 2 : 3;
  }

  // ---- rounds: tail, length, most heaps on the ring, first stair

  static int[] round(List<Integer> row, int law) {
    Map<List<Integer>, Integer> at = new HashMap<>();
    List<List<Integer>> path = new ArrayList<>();
    while (!at.containsKey(row)) {
      at.put(row, path.size());
      path.add(row);
      if (path.size() > 2000) return new int[] {NONE, NONE, NONE, NONE};
      row = step(row, law, null);
    }
    int tail = at.get(row), most = 0, stair = NONE;
    for (int i = 0; i < path.size(); i++) {
      if (i >= tail) most = Math.max(most, path.get(i).size());
      if (stair == NONE && isStair(path.get(i))) stair = i;
    }
    return new int[] {tail, path.size() - tail, most, stair};
  }

  public int tail(int day) {
    return noDay(day) ? -2 : round(at(day), m.law)[0];
  }

  public int length(int day) {
    return noDay(day) ? -2 : round(at(day), m.law)[1];
  }

  public int ring(int day) {
    return noDay(day) ? -2 : round(at(day), m.law)[2];
  }

  public int later(int day, int n, int i) {
    if (noDay(day) || n < 0 || n > 500 || i < 0) return -2;
    List<Integer> row = at(day);
    for (int s = 0; s < n; s++) row = step(row, m.law, null);
    return i < row.size() ? row.get(i) : NONE;
  }

  public int soon(int day) {
    return noDay(day) ? -2 : round(at(day), m.law)[3];
  }

  // ---- all rows

  static void partitions(int left, int most, List<Integer> head, List<List<Integer>> out) {
    if (left == 0) out.add(new ArrayList<>(head));
    for (int h = Math.min(left, most); h >= 1; h--) {
      head.add(h);
      partitions(left - h, h, head, out);
      head.remove(head.size() - 1);
    }
  }

  static List<List<Integer>> allOf(int n) {
    List<List<Integer>> out = new ArrayList<>();
    partitions(n, n, new ArrayList<>(), out);
    return out;
  }

  private boolean notOfAll(int n) {
    return none() || n < 1 || n > 14;
  }

  public int rowsOf(int n) {
    return notOfAll(n) ? -2 : allOf(n).size();
  }

  private Set<List<Integer>> onRings(int n) {
    Set<List<Integer>> on = new HashSet<>();
    for (List<Integer> row : allOf(n)) if (round(row, m.law)[0] == 0) on.add(row);
    return on;
  }

  public int ringed(int n) {
    return notOfAll(n) ? -2 : onRings(n).size();
  }

  public int rings(int n) {
    if (notOfAll(n)) return -2;
    Set<Set<List<Integer>>> rings = new HashSet<>();
    for (List<Integer> row : onRings(n)) {
      Set<List<Integer>> ring = new HashSet<>();
      while (ring.add(row)) row = step(row, m.law, null);
      rings.add(ring);
    }
    return rings.size();
  }

  public int gardens(int n) {
    if (notOfAll(n)) return -2;
    Set<List<Integer>> left = new HashSet<>(allOf(n));
    for (List<Integer> row : allOf(n)) left.remove(step(row, m.law, null));
    return left.size();
  }

  public int longest(int n) {
    if (notOfAll(n)) return -2;
    int best = 0;
    for (List<Integer> row : allOf(n)) best = Math.max(best, round(row, m.law)[0]);
    return best;
  }

  /** The slot's row as heaps; null: a number is none such. */
  private List<Integer> small(int slot) {
    List<Integer> row = new ArrayList<>();
    for (long v : slots[slot]) {
      if (v < 1 || v > 14) return null;
      row.add((int) v);
    }
    return row.isEmpty() || sum(row) > 14 ? null : sorted(row);
  }

  private int smallFault(int slot) {
    if (slot < 0 || slot > 3 || none()) return -2;
    if (slots[slot] == null) return -6;
    return small(slot) == null ? -2 : 0;
  }

  private List<List<Integer>> comers(int slot) {
    List<List<Integer>> out = new ArrayList<>();
    for (List<Integer> row : allOf(sum(small(slot)))) {
      if (step(row, m.law, null).equals(small(slot))) out.add(row);
    }
    return out;
  }

  public int ahead(int slot) {
    return smallFault(slot) != 0 ? smallFault(slot) : comers(slot).size();
  }

  public int from(int slot, int i) {
    if (i < 0) return -2;
    if (smallFault(slot) != 0) return smallFault(slot);
    List<List<Integer>> c = comers(slot);
    return c.isEmpty() || i >= c.get(0).size() ? NONE : c.get(0).get(i);
  }

  public int way(int slot) {
    return smallFault(slot) != 0 ? smallFault(slot) : round(small(slot), m.law)[0];
  }

  // ---- carts more or fewer

  private int lastWith(int day, int turfs) {
    State s = m.copy();
    s.acts.add(new int[] {day, turfs});
    return last(s);
  }

  public int bring(int day, int n) {
    if (noDay(day) || day == m.days || n < 0 || n > 30) return -2;
    if (last(m) >= n) return 0;
    for (int t = 1; t <= 20; t++) if (lastWith(day, t) >= n) return t;
    return NONE;
  }

  public int latest(int n) {
    if (none() || n < 0 || n > 30) return -2;
    int best = NONE;
    for (int d = 0; d < m.days; d++) if (last(m) < n && lastWith(d, 20) >= n) best = d;
    return best;
  }

  public int spare() {
    if (none()) return -2;
    int best = NONE, most = last(m);
    for (int c = 0; c < m.carts.size(); c++) {
      State s = m.copy();
      s.carts.remove(c);
      if (last(s) > most) {
        most = last(s);
        best = c;
      }
    }
    return best;
  }

  // ---- seen

  private int seenFault(int slot, boolean fine) {
    if (slot < 0 || slot > 3 || !fine) return -2;
    if (slots[slot] == null) return -6;
    if (slots[slot].length % 3 != 0) return -2;
    for (int i = 0; i < slots[slot].length; i++) {
      long v = slots[slot][i];
      if (v < 0 || v > (i % 3 == 0 ? m.days : 700)) return -2;
    }
    return 0;
  }

  private int heapFault(int slot, int heap) {
    return seenFault(slot, heap >= 0 && heap < m.told.size());
  }

  private boolean fits(int slot, State s) {
    List<List<Integer>> days = pass(s, 0);
    for (int i = 0; i < slots[slot].length; i += 3) {
      List<Integer> row = days.get((int) slots[slot][i]);
      if (row.size() != slots[slot][i + 1]) return false;
      if ((row.isEmpty() ? 0 : row.get(0)) != slots[slot][i + 2]) return false;
    }
    return true;
  }

  private State otherwise(int heap, int turfs) {
    State s = m.copy();
    s.told.set(heap, turfs);
    return s;
  }

  private List<Integer> possible(int slot, int heap) {
    List<Integer> out = new ArrayList<>();
    for (int h = 1; h <= 20; h++) if (fits(slot, otherwise(heap, h))) out.add(h);
    return out;
  }

  public int heights(int slot, int heap) {
    return heapFault(slot, heap) != 0 ? heapFault(slot, heap) : possible(slot, heap).size();
  }

  public int least(int slot, int heap) {
    if (heapFault(slot, heap) != 0) return heapFault(slot, heap);
    return possible(slot, heap).isEmpty() ? NONE : Collections.min(possible(slot, heap));
  }

  public int greatest(int slot, int heap) {
    if (heapFault(slot, heap) != 0) return heapFault(slot, heap);
    return possible(slot, heap).isEmpty() ? NONE : Collections.max(possible(slot, heap));
  }

  /** The day to ask for, and what it leaves. */
  private int[] asked(int slot, int heap) {
    List<Integer> possible = possible(slot, heap);
    int[] best = {NONE, possible.size()};
    for (int d = 0; d <= m.days; d++) {
      Map<Integer, Integer> groups = new HashMap<>();
      for (int h : possible) groups.merge(pass(otherwise(heap, h), 0).get(d).size(), 1, Integer::sum);
      int worst = groups.isEmpty() ? 0 : Collections.max(groups.values());
      if (worst < best[1]) best = new int[] {d, worst};
    }
    return best;
  }

  public int ask(int slot, int heap) {
    return heapFault(slot, heap) != 0 ? heapFault(slot, heap) : asked(slot, heap)[0];
  }

  public int leaves(int slot, int heap) {
    return heapFault(slot, heap) != 0 ? heapFault(slot, heap) : asked(slot, heap)[1];
  }

  private State byLaw(int law) {
    State s = m.copy();
    s.law = law;
    return s;
  }

  public int laws(int slot) {
    if (seenFault(slot, !none()) != 0) return seenFault(slot, !none());
    int bits = 0;
    for (int l = 0; l < 4; l++) if (fits(slot, byLaw(l))) bits += 1 << l;
    return bits;
  }

  public int by(int law) {
    return none() || law < 0 || law > 3 ? -2 : last(byLaw(law));
  }

  public int law() {
    if (none()) return -2;
    int best = 0;
    for (int l = 1; l < 4; l++) if (last(byLaw(l)) > last(byLaw(best))) best = l;
    return best;
  }

  // ---- shares: all orders, one by one

  private int worthOf(int set) {
    State s = m.copy();
    for (int c = m.carts.size() - 1; c >= 0; c--) if ((set >> c & 1) == 0) s.carts.remove(c);
    return last(s);
  }

  public int worth(int set) {
    return none() || set < 0 || set >= Math.pow(2, m.carts.size()) ? -2 : worthOf(set);
  }

  private long[] overOrders(int cart, int come, Map<Integer, Integer> worths) {
    int n = m.carts.size();
    long[] out = new long[2];
    for (int c = 0; c < n; c++) {
      if ((come >> c & 1) == 1) continue;
      if (c == cart) {
        // The orders of those that come behind it all give the same.
        long orders = 1;
        for (int i = 2; i < n - Integer.bitCount(come); i++) orders *= i;
        int gain = worths.computeIfAbsent(come | 1 << c, this::worthOf) - worths.computeIfAbsent(come, this::worthOf);
        out[0] += orders * gain;
        out[1] += orders;
      } else {
        long[] more = overOrders(cart, come | 1 << c, worths);
        out[0] += more[0];
        out[1] += more[1];
      }
    }
    return out;
  }

  static long lowest(long above, long below, int what) {
    BigInteger g = BigInteger.valueOf(above).gcd(BigInteger.valueOf(below));
    return (what == 0 ? above : below) / g.longValue();
  }

  public int share(int cart, int what) {
    if (cart < 0 || cart >= m.carts.size() || what < 0 || what > 1) return -1000;
    long[] f = overOrders(cart, 0, new HashMap<>());
    return (int) lowest(f[0], f[1], what);
  }

  // ---- takers: heaps valued by the least value that can't be come to

  private final Map<Integer, int[]> values = new HashMap<>();

  private int[] valuesOf(int k) {
    return values.computeIfAbsent(k, x -> {
      int[] v = new int[701];
      for (int h = 0; h <= 700; h++) {
        boolean[] hit = new boolean[702];
        for (int t = 1; t <= Math.min(k, h); t++) hit[v[h - t]] = true;
        while (hit[v[h]]) v[h]++;
      }
      return v;
    });
  }

  private boolean noGame(int day, int k) {
    return noDay(day) || k < 1 || k > 700;
  }

  private boolean canWin(List<Integer> row, int k) {
    int x = 0;
    for (int h : row) x ^= valuesOf(k)[h];
    return x != 0;
  }

  public int wins(int day, int k) {
    return noGame(day, k) ? -2 : canWin(at(day), k) ? 1 : 0;
  }

  private List<Integer> movesOf(int day, int k) {
    List<Integer> out = new ArrayList<>();
    List<Integer> row = at(day);
    for (int i = 0; i < row.size(); i++) {
      if (i > 0 && row.get(i).equals(row.get(i - 1))) continue;
      for (int t = 1; t <= Math.min(k, row.get(i)); t++) {
        List<Integer> after = new ArrayList<>(row);
        after.set(i, row.get(i) - t);
        if (!canWin(after, k)) out.add(1000 * row.get(i) + t);
      }
    }
    return out;
  }

  public int moves(int day, int k) {
    return noGame(day, k) ? -2 : movesOf(day, k).size();
  }

  public int move(int day, int k) {
    if (noGame(day, k)) return -2;
    return movesOf(day, k).isEmpty() ? NONE : movesOf(day, k).get(0);
  }

  // ---- two carts that come late

  private boolean noTwo(int a, int b) {
    return a < 0 || b < 0 || a >= m.carts.size() || b >= m.carts.size() || a == b;
  }

  private int got(int a, int b, int x, int y, int what) {
    State s = m.copy();
    s.carts.get(a)[1] += x;
    s.carts.get(b)[1] += y;
    List<Integer> row = pass(s, 0).get(m.days);
    int top = row.isEmpty() ? 0 : row.get(0);
    return what == 0 ? 2 * row.size() + top - x : row.size() + 2 * top - y;
  }

  public int rests(int cart, int other) {
    if (noTwo(cart, other)) return -2;
    int bits = 0;
    for (int x = 0; x < 2; x++) {
      for (int y = 0; y < 2; y++) {
        boolean rest = got(cart, other, 1 - x, y, 0) <= got(cart, other, x, y, 0)
            && got(cart, other, x, 1 - y, 1) <= got(cart, other, x, y, 1);
        if (rest) bits += x == 0 ? (y == 0 ? 1 : 4) : (y == 0 ? 2 : 8);
      }
    }
    return bits;
  }

  public int gets(int cart, int other, int x, int y, int what) {
    for (int v : new int[] {x, y, what}) if (v < 0 || v > 1) return -1000;
    return noTwo(cart, other) ? -1000 : got(cart, other, x, y, what);
  }

  // ---- chance

  private long[] weighed(int day, int n) {
    long above = 0, below = 1;
    for (int d = 0; d <= day; d++) below *= 10;
    for (int wet = 0; wet < 1 << (day + 1); wet++) {
      long w = 1;
      for (int d = 0; d <= day; d++) w *= (wet >> d & 1) == 1 ? m.odds : 10 - m.odds;
      int heaps = pass(m, wet).get(day + 1).size();
      above += n < 0 ? w * heaps : heaps >= n ? w : 0;
    }
    return new long[] {above, below};
  }

  public long chance(int day, int n, int what) {
    if (noDay(day) || day >= m.days || day > 7 || n < 0 || n > 700 || what < 0 || what > 1) return -2;
    long[] f = weighed(day, n);
    return lowest(f[0], f[1], what);
  }

  public long mean(int day, int what) {
    if (noDay(day) || day >= m.days || day > 7 || what < 0 || what > 1) return -2;
    long[] f = weighed(day, -1);
    return lowest(f[0], f[1], what);
  }

  // ---- acts

  private int act(int day, int turfs) {
    if (m.acts.size() == 20) return -5;
    m.acts.add(new int[] {day, turfs});
    return last(m);
  }

  public int brings(int n, int day) {
    return noDay(day) || n < 1 || n > 20 ? -2 : act(day, n);
  }

  public int away(int day) {
    return noDay(day) ? -2 : act(day, 0);
  }

  public int undo() {
    if (none()) return -2;
    if (m.acts.isEmpty()) return -5;
    m.acts.remove(m.acts.size() - 1);
    return m.acts.size();
  }

  public int anew() {
    if (none()) return -2;
    int n = m.acts.size();
    m.acts.clear();
    return n;
  }

  // ---- summers

  private int wetOf(long seed) {
    BigInteger x = BigInteger.valueOf(seed);
    int bits = 0;
    for (int d = 0; d < m.days; d++) {
      x = x.multiply(BigInteger.valueOf(1103515245)).add(BigInteger.valueOf(12345)).mod(BigInteger.valueOf(2147483648L));
      if (x.longValue() / 65536 % 10 < m.odds) bits += 1 << d;
    }
    return bits;
  }

  public int drawn(int seed, int what) {
    if (none() || seed < 0 || seed > 2000000000 || what < 0 || what > 1) return -2;
    return what == 0 ? wetOf(seed) : pass(m, wetOf(seed)).get(m.days).size();
  }

  public int luck(int seed, int n, int k) {
    if (none() || seed < 0 || seed > 2000000000 || n < 1 || n > 20 || k < 0 || k > 700) return -2;
    int out = 0;
    for (int s = 0; s < n; s++) if (pass(m, wetOf((long) seed + s)).get(m.days).size() >= k) out++;
    return out;
  }

  public int rate(int heap, int n) {
    if (heap < 0 || heap >= m.told.size() || n < 1 || n > 20) return -2;
    return m.acts.isEmpty() ? m.told.set(heap, n) : -5;
  }

  public int count(int what) {
    int rows = 0;
    for (long[] s : slots) if (s != null) rows++;
    int[] all = {m.days, m.law, m.odds, m.told.size(), m.carts.size(), m.acts.size(), m.lines, tape.length(), rows};
    return what < 0 || what >= all.length ? NONE : all[what];
  }

  public int image(int k) {
    if (k < 0 || k > 2) return -2;
    images[k] = m.copy();
    return 0;
  }

  public int back(int k) {
    if (k < 0 || k > 2) return -2;
    if (images[k] == null) return -6;
    m = images[k].copy();
    return 0;
  }

  // ---- slots

  public int row(int slot, int width, int n) {
    if (slot < 0 || slot > 3 || width < 0 || width > 3 || n > 60) return -2;
    if (n < 0) return -3;
    slots[slot] = new long[n];
    widths[slot] = width;
    return 0;
  }

  public int write(int slot, int i, long v) {
    if (slot < 0 || slot > 3) return -2;
    if (slots[slot] == null) return -6;
    if (i < 0 || i >= slots[slot].length) return -7;
    int shift = 64 - (8 << widths[slot]);
    slots[slot][i] = v << shift >> shift;
    return 0;
  }

  public int paste(int slot, int i, int to, int k, int n) {
    if (slot < 0 || slot > 3 || to < 0 || to > 3) return -2;
    if (slots[slot] == null || slots[to] == null) return -6;
    if (widths[slot] != widths[to]) return -8;
    if (i < 0 || k < 0 || n < 0) return -7;
    if ((long) i + n > slots[slot].length || (long) k + n > slots[to].length) return -7;
    long[] was = Arrays.copyOfRange(slots[slot], i, i + n);
    for (int j = 0; j < n; j++) slots[to][k + j] = was[j];
    return 0;
  }
}
