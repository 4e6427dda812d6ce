import java.util.function.IntUnaryOperator;

/** What the tests of edges share: moors, and words that they use all the time. */
abstract class Edges {
  // [4 1] [3 2] [2 2 1] [3 2 1 1] [4 2 1] [3 3 1] [3 2 2]
  static final String A = "moor days 6 law 0 odds 3; heap of 4; heap of 1; cart of 2 at 3;";
  static final String BARE = "moor days 2 law 0 odds 10;";
  // All that a moor can have, lines in a mixed order: heaps of 20 .. 13, carts of 1 .. 6 at 0 3 6 9 12 15.
  static final String FULL = "moor days 16 law 0 odds 5;cart of 1 at 0;heap of 20;heap of 19;cart of 2 at 3;cart of 3 at 6;heap of 18;"
      + "heap of 17;heap of 16;cart of 4 at 9;heap of 15;cart of 5 at 12;heap of 14;heap of 13;cart of 6 at 15;";

  static void on(String part) {
    Sentences.on(part);
  }

  static void says(String sentence) {
    Sentences.says(sentence);
  }

  static void due(String call, long got, long want) {
    Sentences.due(call, got, want);
  }

  /** Days outside of these are refused, these aren't. */
  static void onlyDays(String name, int first, int last, IntUnaryOperator call) {
    onlyFrom(first, last, -2, name, call);
  }

  /** Numbers below low and above high are refused with one answer, low and high are not. */
  static void onlyFrom(int low, int high, int refused, String name, IntUnaryOperator call) {
    for (int n : new int[] {low - 1, high + 1, Integer.MIN_VALUE, Integer.MAX_VALUE}) due(name + " for " + n, call.applyAsInt(n), refused);
    for (int n : new int[] {low, high}) due(name + " for " + n + " is refused", call.applyAsInt(n) == refused ? 1 : 0, 0);
  }

  /** The text behind what the tape has; the last feed is filled with blanks and cut off again. */
  static void put(TurfHeaps x, String text) {
    int had = x.count(7);
    for (int p = 0; p < text.length(); p += 20) {
      int[] v = new int[5];
      for (int j = 0; j < 20; j++) v[j / 4] = v[j / 4] << 8 | (p + j < text.length() ? text.charAt(p + j) : ' ');
      x.feed(v[0], v[1], v[2], v[3], v[4]);
    }
    x.end(had + text.length());
  }

  static TurfHeaps of(String text) {
    TurfHeaps x = new TurfHeaps();
    put(x, text);
    if (x.moor() < 1) throw new IllegalStateException("no moor: " + text + ": " + x.fault(0) + " at " + x.fault(1));
    return x;
  }

  /** A moor of heaps alone. */
  static TurfHeaps heaps(int days, int law, int... heaps) {
    StringBuilder text = new StringBuilder("moor days " + days + " law " + law + " odds 0;");
    for (int h : heaps) text.append("heap of ").append(h).append(";");
    return of(text.toString());
  }

  static void row(TurfHeaps x, int day, int... heaps) {
    due("heaps(" + day + ")", x.heaps(day), heaps.length);
    for (int i = 0; i < heaps.length; i++) due("heap(" + day + ", " + i + ")", x.heap(day, i), heaps[i]);
    due("heap(" + day + ", " + heaps.length + ")", x.heap(day, heaps.length), -1);
  }

  static void slot(TurfHeaps x, int slot, int width, long... numbers) {
    due("row(" + slot + ", " + width + ", " + numbers.length + ")", x.row(slot, width, numbers.length), 0);
    for (int i = 0; i < numbers.length; i++) due("write(" + slot + ", " + i + ", " + numbers[i] + ")", x.write(slot, i, numbers[i]), 0);
  }
}
