/**
 * Each promise by hand: what is due was worked out on paper from the document, not taken from the class.
 * Every check bears the number of its promise.
 */
public final class PromiseTest {
  private static int checks = 0;
  private static int wrong = 0;

  // [4 1] [3 2] [2 2 1] [3 2 1 1] [4 2 1] [3 3 1] [3 2 2]
  private static final String A = "moor days 6 law 0 odds 3; heap of 4; heap of 1; cart of 2 at 3;";
  // [4 1 1] [3 3] [2 2 2] [3 1 1 1] [4 2] [3 2 1] [3 2 1] [3 2 1]
  private static final String B = "moor days 7 law 0 odds 0;\nheap of 1;heap of 4;heap of 1;";
  private static final String BARE = "moor days 2 law 0 odds 10;";

  private static void due(int promise, String what, long got, long want) {
    checks++;
    if (got != want) {
      wrong++;
      System.out.println("promise " + promise + ": " + what + " answered " + got + ", due is " + want);
    }
  }

  private static TurfHeaps of(String text) {
    TurfHeaps x = new TurfHeaps();
    Edges.put(x, text);
    int lines = x.moor();
    if (lines < 1) due(4, "moor() of " + text, lines, 1);
    return x;
  }

  private static void row(int promise, TurfHeaps x, int day, int... heaps) {
    due(promise, "heaps(" + day + ")", x.heaps(day), heaps.length);
    for (int i = 0; i < heaps.length; i++) due(promise, "heap(" + day + ", " + i + ")", x.heap(day, i), heaps[i]);
    due(promise, "heap behind the last", x.heap(day, heaps.length), -1);
  }

  private static void slot(TurfHeaps x, int slot, int width, long... numbers) {
    due(71, "row", x.row(slot, width, numbers.length), 0);
    for (int i = 0; i < numbers.length; i++) due(72, "write", x.write(slot, i, numbers[i]), 0);
  }

  private static void newObject() {
    TurfHeaps x = new TurfHeaps();
    due(1, "NONE", TurfHeaps.NONE, -1);
    for (int what = 0; what <= 8; what++) due(1, "count(" + what + ")", x.count(what), 0);
    due(1, "heaps(0)", x.heaps(0), -2);
    due(1, "told(0)", x.told(0), -2);
    due(1, "rowsOf(1)", x.rowsOf(1), -2);
    due(1, "drawn(0, 0)", x.drawn(0, 0), -2);
    due(1, "mean(0, 0)", x.mean(0, 0), -2);
    due(1, "laws(0)", x.laws(0), -2);
    due(1, "undo()", x.undo(), -2);
    due(1, "anew()", x.anew(), -2);
    due(1, "back(0)", x.back(0), -6);
  }

  private static void tape() {
    TurfHeaps x = new TurfHeaps();
    due(2, "feed", x.feed(0x6d6f6f72, 0x20646179, 0x73203720, 0x6c617720, 0x31206f64), 20);
    due(2, "feed", x.feed(0x64732039, 0x3b202020, 0x20202020, 0x20202020, 0x20202020), 40);
    due(3, "end(-1)", x.end(-1), -1);
    due(3, "end(41)", x.end(41), -1);
    due(3, "bytes", x.count(7), 40);
    due(3, "end(40)", x.end(40), 40);
    due(3, "end(25)", x.end(25), 25);
    due(3, "bytes", x.count(7), 25);
    due(2, "moor() of what was fed", x.moor(), 1);
    due(2, "days", x.count(0), 7);
    due(2, "law", x.count(1), 1);
    due(2, "odds", x.count(2), 9);
    for (int n = 20; n <= 500; n += 20) due(2, "feed", x.feed(1, 2, 3, 4, 5), n);
    due(2, "feed beyond 500", x.feed(1, 2, 3, 4, 5), -1);
    due(2, "bytes", x.count(7), 500);
    due(3, "end(481)", x.end(481), 481);
    due(2, "feed beyond 500", x.feed(1, 2, 3, 4, 5), -1);
    due(3, "end(480)", x.end(480), 480);
    due(2, "feed to 500", x.feed(1, 2, 3, 4, 5), 500);
    due(3, "end(0)", x.end(0), 0);
    due(3, "bytes", x.count(7), 0);
  }

  private static void moorTaken() {
    TurfHeaps x = of(A);
    due(4, "the tape behind moor()", x.count(7), 0);
    due(4, "lines", x.count(6), 4);
    due(4, "away", x.away(0), 2);
    Edges.put(x, "moor days 1 law 0 odds 0;heap");
    due(4, "moor() with a fault", x.moor(), -4);
    due(4, "the tape stays", x.count(7), 29);
    due(4, "the moor stays", x.count(6), 4);
    due(4, "the acts stay", x.count(5), 1);
    Edges.put(x, " of 7;");
    due(4, "moor() in place of another", x.moor(), 2);
    due(4, "nothing done", x.count(5), 0);
    row(4, x, 0, 7);
    Edges.put(x, " \n ");
    due(4, "moor() of blanks", x.moor(), 0);
    due(4, "no moor then", x.heaps(0), -2);
    due(4, "no heaps told then", x.told(0), -2);
    due(4, "days", x.count(0), 0);
    Edges.put(x, "moor\ndays 016 law 3odds10;heap of 20;cart of 20at 15;");
    due(4, "tokens side by side", x.moor(), 3);
    due(4, "days", x.count(0), 16);
    due(4, "law", x.count(1), 3);
    due(4, "odds", x.count(2), 10);
    due(7, "cart(0, 1)", x.cart(0, 1), 15);
  }

  private static void fault(String text, int what, int place) {
    TurfHeaps x = new TurfHeaps();
    Edges.put(x, text);
    due(5, "moor() of " + text, x.moor(), what == 0 ? x.count(6) : -4);
    due(5, "fault(0) of " + text, x.fault(0), what);
    due(5, "fault(1) of " + text, x.fault(1), place);
  }

  private static void faults() {
    TurfHeaps x = new TurfHeaps();
    due(5, "fault(0) ahead of any", x.fault(0), 0);
    due(5, "fault(1) ahead of any", x.fault(1), -1);
    due(5, "fault(2)", x.fault(2), -1);
    due(5, "fault(-1)", x.fault(-1), -1);
    String m = "moor days 1 law 0 odds 0;"; // 25 bytes
    fault("", 0, -1);
    fault(m, 0, -1);
    fault("heap of 1;", 1, 0);
    fault(" ;", 1, 1);
    fault("7", 1, 0);
    fault("moors days 1 law 0 odds 0;", 1, 0);
    fault("moorz days 1 law 0 odds 0;", 1, 0);
    fault("moor{", 1, 4);
    fault("moor`", 1, 4);
    fault("moor days 1/", 1, 11);
    fault("moor days 1:", 1, 11);
    fault("moor day 1 law 0 odds 0;", 1, 5);
    fault("moor days law", 1, 10);
    fault("moor days 0 law 0 odds 0;", 2, 10);
    fault("moor days 17 law 0 odds 0;", 2, 10);
    fault("moor days 99999999999999999999999 law 0 odds 0;", 2, 10);
    fault("moor days 4294967297 law 0 odds 0;", 2, 10);
    fault("moor days 1 law 4 odds 0;", 2, 16);
    fault("moor days 1 law 0 odds 11;", 2, 23);
    fault("moor days 1 law 0 odds 0", 1, 24);
    fault("moor days 1 law 0 odds 0  \n", 1, 27);
    fault("moor days 1 law 0 odds 0 moor", 1, 25);
    fault("moor days -1 law 0 odds 0;", 1, 10);
    fault("moor days 1\tlaw 0 odds 0;", 1, 11);
    fault("Moor days 1 law 0 odds 0;", 1, 0);
    fault("\u00ff", 1, 0);
    fault("moor days 1 law 0 odds 0,", 1, 24);
    fault(m + m, 1, 25);
    fault(m + ";", 1, 25);
    fault(m + "days", 1, 25);
    fault(m + "heap of 0;", 2, 33);
    fault(m + "heap of 21;", 2, 33);
    fault(m + "heap of 20;", 0, -1);
    fault(m + "heap of 5 at 3;", 1, 35);
    fault(m + "heapof 5;", 1, 25);
    fault(m + "cart of 0 at 0;", 2, 33);
    fault(m + "cart of 21 at 0;", 2, 33);
    fault(m + "cart of 1 at 16;", 2, 38);
    fault(m + "cart of 1 at 15;", 0, -1);
    fault(m + "cart of 1;", 1, 34);
    fault(m + "cart", 1, 29);
    String heaps = m + "heap of 1;".repeat(8);
    fault(heaps, 0, -1);
    fault(heaps + "heap of 99;", 3, 105);
    fault(heaps + "cart of 99 at 1;", 2, 113);
    String carts = m + "cart of 1 at 1;".repeat(6);
    fault(carts, 0, -1);
    fault(carts + " cart", 3, 116);
    Edges.put(x, "?");
    due(5, "moor()", x.moor(), -4);
    x.end(0);
    due(5, "fault(0) is the latest moor()'s", x.fault(0), 1);
    Edges.put(x, m);
    x.moor();
    due(5, "fault(0) without", x.fault(0), 0);
    due(5, "fault(1) without", x.fault(1), -1);
  }

  private static void toldAndCarts() {
    TurfHeaps x = of(A);
    due(6, "told(0)", x.told(0), 4);
    due(6, "told(1)", x.told(1), 1);
    due(6, "told(2)", x.told(2), -2);
    due(6, "told(-1)", x.told(-1), -2);
    due(7, "cart(0, 0)", x.cart(0, 0), 2);
    due(7, "cart(0, 1)", x.cart(0, 1), 3);
    due(7, "cart(0, 2)", x.cart(0, 2), -2);
    due(7, "cart(0, -1)", x.cart(0, -1), -2);
    due(7, "cart(1, 0)", x.cart(1, 0), -2);
    due(7, "cart(-1, 0)", x.cart(-1, 0), -2);
  }

  private static void rowsOfDays() {
    TurfHeaps x = of(A);
    row(9, x, 0, 4, 1);
    row(9, x, 1, 3, 2);
    row(9, x, 2, 2, 2, 1);
    row(9, x, 3, 3, 2, 1, 1);
    row(9, x, 4, 4, 2, 1);
    row(9, x, 5, 3, 3, 1);
    row(9, x, 6, 3, 2, 2);
    due(8, "heaps(7)", x.heaps(7), -2);
    due(8, "heaps(-1)", x.heaps(-1), -2);
    due(9, "heap(0, -1)", x.heap(0, -1), -2);
    due(9, "heap(7, 0)", x.heap(7, 0), -2);
    int[] all = {5, 5, 5, 7, 7, 7, 7, -2};
    int[] sorts = {2, 2, 2, 3, 3, 2, 2, -2};
    int[] spread = {3, 1, 1, 2, 3, 2, 1, -2};
    int[] odd = {1, 1, 1, 3, 1, 3, 1, -2};
    int[] taken = {2, 2, 3, 4, 3, 3, -2, -2};
    int[] gone = {1, 0, 1, 2, 1, 1, -2, -2};
    int[] square = {1, 2, 2, 2, 2, 2, 2, -2};
    for (int d = 0; d <= 7; d++) {
      due(10, "all(" + d + ")", x.all(d), all[d]);
      due(12, "sorts(" + d + ")", x.sorts(d), sorts[d]);
      due(13, "spread(" + d + ")", x.spread(d), spread[d]);
      due(14, "odd(" + d + ")", x.odd(d), odd[d]);
      due(15, "taken(" + d + ")", x.taken(d), taken[d]);
      due(16, "gone(" + d + ")", x.gone(d), gone[d]);
      due(19, "same(" + d + ")", x.same(d), d < 7 ? d : -2);
      due(24, "square(" + d + ")", x.square(d), square[d]);
    }
    due(11, "many(3, 1)", x.many(3, 1), 2);
    due(11, "many(3, 4)", x.many(3, 4), 0);
    due(11, "many(3, 700)", x.many(3, 700), 0);
    due(11, "many(3, 0)", x.many(3, 0), -2);
    due(11, "many(3, 701)", x.many(3, 701), -2);
    due(11, "many(7, 1)", x.many(7, 1), -2);
    due(17, "most()", x.most(), 4);
    due(18, "peak()", x.peak(), 0);
    due(20, "still()", x.still(), 6);
    due(21, "rows()", x.rows(), 7);
    due(23, "stairs()", x.stairs(), -1);
    due(25, "flip(0, 0)", x.flip(0, 0), 2);
    due(25, "flip(0, 3)", x.flip(0, 3), 1);
    due(25, "flip(0, 4)", x.flip(0, 4), -1);
    due(25, "flip(3, 0)", x.flip(3, 0), 4);
    due(25, "flip(3, 1)", x.flip(3, 1), 2);
    due(25, "flip(3, 2)", x.flip(3, 2), 1);
    due(25, "flip(3, -1)", x.flip(3, -1), -2);
    due(25, "flip(7, 0)", x.flip(7, 0), -2);
    due(27, "above(0, 1)", x.above(0, 1), 1);
    due(27, "above(1, 0)", x.above(1, 0), 2);
    due(27, "above(3, 4)", x.above(3, 4), 2);
    due(27, "above(0, 3)", x.above(0, 3), -1);
    due(27, "above(2, 2)", x.above(2, 2), 0);
    due(27, "above(0, 7)", x.above(0, 7), -2);
    due(27, "above(-1, 0)", x.above(-1, 0), -2);
  }

  private static void stairsAndRounds() {
    TurfHeaps x = of(B);
    row(9, x, 0, 4, 1, 1);
    row(9, x, 5, 3, 2, 1);
    due(27, "above(0, 1)", x.above(0, 1), 3);
    due(18, "peak()", x.peak(), 0);
    due(19, "same(7)", x.same(7), 5);
    due(20, "still()", x.still(), 5);
    due(21, "rows()", x.rows(), 6);
    due(22, "stair(4)", x.stair(4), 0);
    due(22, "stair(5)", x.stair(5), 1);
    due(22, "stair(8)", x.stair(8), -2);
    due(23, "stairs()", x.stairs(), 5);
    due(26, "even(4)", x.even(4), 0);
    due(26, "even(5)", x.even(5), 1);
    due(26, "even(8)", x.even(8), -2);
    due(28, "tail(0)", x.tail(0), 5);
    due(29, "length(0)", x.length(0), 1);
    due(30, "ring(0)", x.ring(0), 3);
    due(32, "soon(0)", x.soon(0), 5);
    due(32, "soon(3)", x.soon(3), 2);
    due(32, "soon(7)", x.soon(7), 0);
    due(28, "tail(8)", x.tail(8), -2);
    due(29, "length(-1)", x.length(-1), -2);
    due(30, "ring(8)", x.ring(8), -2);
    due(32, "soon(8)", x.soon(8), -2);
    due(31, "later(0, 0, 0)", x.later(0, 0, 0), 4);
    due(31, "later(0, 1, 1)", x.later(0, 1, 1), 3);
    due(31, "later(0, 1, 2)", x.later(0, 1, 2), -1);
    due(31, "later(0, 500, 2)", x.later(0, 500, 2), 1);
    due(31, "later(0, 501, 0)", x.later(0, 501, 0), -2);
    due(31, "later(0, -1, 0)", x.later(0, -1, 0), -2);
    due(31, "later(0, 0, -1)", x.later(0, 0, -1), -2);
    due(31, "later(8, 0, 0)", x.later(8, 0, 0), -2);
    TurfHeaps y = of(A); // the cart aside: [4 1], then round [3 2] [2 2 1] [3 1 1]
    due(28, "tail(0)", y.tail(0), 1);
    due(29, "length(0)", y.length(0), 3);
    due(30, "ring(0)", y.ring(0), 3);
    due(32, "soon(0)", y.soon(0), -1);
    due(31, "later(0, 3, 2)", y.later(0, 3, 2), 1);
    y.rate(0, 2);
    due(32, "soon(0) of [2 1]", y.soon(0), 0);
    y = of("moor days 1 law 3 odds 0;heap of 3;"); // [3] [2 1] [3]: a stair on the ring, not its first row
    due(28, "tail(0)", y.tail(0), 0);
    due(29, "length(0)", y.length(0), 2);
    due(32, "soon(0) on a ring", y.soon(0), 1);
    lastDays();
  }

  /** What is so on the last day alone. */
  private static void lastDays() {
    TurfHeaps x = of("moor days 1 law 0 odds 0;heap of 5;cart of 9 at 1;cart of 9 at 1;");
    due(17, "most()", x.most(), 4);
    due(18, "peak()", x.peak(), 1);
    x = of("moor days 1 law 0 odds 0;heap of 3;");
    due(23, "stairs()", x.stairs(), 1);
    due(21, "rows()", x.rows(), 2);
    x = of("moor days 16 law 1 odds 0;heap of 4;heap of 2;heap of 1;cart of 1 at 15;");
    due(19, "same(14)", x.same(14), 0);
    row(8, x, 15, 4, 2, 1, 1);
    row(8, x, 16, 4, 3, 1);
    due(20, "still()", x.still(), 16);
    due(21, "rows()", x.rows(), 3);
  }

  private static void lawsByHand() {
    TurfHeaps x = of("moor days 2 law 1 odds 0;heap of 2;heap of 2;");
    row(9, x, 1, 2, 1, 1);
    row(9, x, 2, 2, 2);
    due(15, "taken(1)", x.taken(1), 2);
    due(16, "gone(1)", x.gone(1), 2);
    due(29, "length(0)", x.length(0), 2);
    due(30, "ring(0)", x.ring(0), 3);
    x = of("moor days 1 law 1 odds 0;heap of 1;heap of 1;heap of 1;");
    due(16, "gone(0)", x.gone(0), 2);
    row(9, x, 1, 2, 1);
    x = of("moor days 1 law 1 odds 0;heap of 5;");
    due(15, "taken(0)", x.taken(0), 0);
    row(9, x, 1, 5);
    due(28, "tail(0)", x.tail(0), 0);
    due(29, "length(0)", x.length(0), 1);
    x = of("moor days 3 law 2 odds 0;heap of 1;heap of 3;");
    row(9, x, 1, 2, 1, 1);
    row(9, x, 2, 1, 1, 1, 1);
    row(9, x, 3, 1, 1, 1, 1);
    due(15, "taken(0)", x.taken(0), 1);
    due(15, "taken(2)", x.taken(2), 0);
    due(16, "gone(2)", x.gone(2), 0);
    x = of("moor days 3 law 3 odds 0;heap of 5;heap of 2;heap of 1;");
    row(9, x, 1, 5, 3);
    row(9, x, 2, 4, 3, 1);
    row(9, x, 3, 5, 2, 1);
    due(15, "taken(0)", x.taken(0), 5);
    due(16, "gone(0)", x.gone(0), 2);
    due(29, "length(0)", x.length(0), 3);
  }

  private static void bareMoor() {
    TurfHeaps x = of(BARE);
    row(8, x, 2);
    due(10, "all(0)", x.all(0), 0);
    due(12, "sorts(0)", x.sorts(0), 0);
    due(13, "spread(0)", x.spread(0), 0);
    due(14, "odd(0)", x.odd(0), 0);
    due(15, "taken(0)", x.taken(0), 0);
    due(16, "gone(0)", x.gone(0), 0);
    due(17, "most()", x.most(), 0);
    due(18, "peak()", x.peak(), 0);
    due(19, "same(2)", x.same(2), 0);
    due(20, "still()", x.still(), 0);
    due(21, "rows()", x.rows(), 1);
    due(22, "stair(0)", x.stair(0), 0);
    due(23, "stairs()", x.stairs(), -1);
    due(24, "square(0)", x.square(0), 0);
    due(25, "flip(0, 0)", x.flip(0, 0), -1);
    due(26, "even(0)", x.even(0), 1);
    due(27, "above(0, 1)", x.above(0, 1), 0);
    due(28, "tail(0)", x.tail(0), 0);
    due(29, "length(0)", x.length(0), 1);
    due(30, "ring(0)", x.ring(0), 0);
    due(31, "later(0, 9, 0)", x.later(0, 9, 0), -1);
    due(32, "soon(0)", x.soon(0), -1);
    due(43, "spare()", x.spare(), -1);
    due(51, "law()", x.law(), 0);
    due(52, "worth(0)", x.worth(0), 0);
    due(52, "worth(1)", x.worth(1), -2);
    due(54, "wins(0, 5)", x.wins(0, 5), 0);
    due(55, "moves(0, 5)", x.moves(0, 5), 0);
    due(56, "move(0, 5)", x.move(0, 5), -1);
    due(62, "away(1)", x.away(1), 0);
    due(62, "it is an act", x.count(5), 1);
    due(63, "undo()", x.undo(), 0);
    due(65, "drawn(5, 0), all wet", x.drawn(5, 0), 3);
  }

  private static void allRows() {
    TurfHeaps x = of(A);
    // Rows, on rings, rings, come to by none, longest tail; 6 and 10 are stairs: 3 * 2 and 4 * 3 steps at
    // most; 8 is 6 and 2 more, which go round as the 2 ways to lay 2 black stones of 4 into a ring.
    int[][] known = {{1, 1, 1, 1, 0, 0}, {3, 3, 1, 1, 1, 2}, {4, 5, 3, 1, 1, 2}, {6, 11, 1, 1, -9, 6}, {8, 22, 6, 2, -9, -9},
      {10, 42, 1, 1, -9, 12}, {14, 135, 5, 1, -9, -9}};
    for (int[] k : known) {
      due(33, "rowsOf(" + k[0] + ")", x.rowsOf(k[0]), k[1]);
      due(34, "ringed(" + k[0] + ")", x.ringed(k[0]), k[2]);
      due(35, "rings(" + k[0] + ")", x.rings(k[0]), k[3]);
      if (k[4] >= 0) due(36, "gardens(" + k[0] + ")", x.gardens(k[0]), k[4]);
      if (k[5] >= 0) due(37, "longest(" + k[0] + ")", x.longest(k[0]), k[5]);
    }
    for (int n : new int[] {0, 15, -1}) {
      due(33, "rowsOf", x.rowsOf(n), -2);
      due(34, "ringed", x.ringed(n), -2);
      due(35, "rings", x.rings(n), -2);
      due(36, "gardens", x.gardens(n), -2);
      due(37, "longest", x.longest(n), -2);
    }
    // By law 2 all ends as heaps of one: one ring, which steps to itself and so is come to.
    x = of("moor days 1 law 2 odds 0;");
    due(34, "ringed(4)", x.ringed(4), 1);
    due(36, "gardens(1)", x.gardens(1), 0);
    due(37, "longest(4)", x.longest(4), 3); // [4] [3 1] [2 1 1] [1 1 1 1]
    due(36, "gardens(4)", x.gardens(4), 2); // [4] and [2 2]
  }

  private static void slotRows() {
    TurfHeaps x = of(A);
    slot(x, 0, 0, 1, 3);
    due(38, "ahead of [3 1]", x.ahead(0), 2); // [4], [2 1 1]
    due(39, "from(0, 0)", x.from(0, 0), 4);
    due(39, "from(0, 1)", x.from(0, 1), -1);
    due(39, "from(0, 20)", x.from(0, 20), -1);
    due(39, "from(0, -1)", x.from(0, -1), -2);
    due(40, "way(0)", x.way(0), 0);
    slot(x, 1, 3, 1, 1, 1, 1);
    due(38, "ahead of [1 1 1 1]", x.ahead(1), 0);
    due(39, "from(1, 0)", x.from(1, 0), -1);
    due(40, "way(1)", x.way(1), 2);
    slot(x, 1, 1, 2, 1);
    due(38, "ahead of a stair", x.ahead(1), 2); // itself, [3]
    due(39, "from(1, 0)", x.from(1, 0), 3);
    slot(x, 1, 2, 14);
    due(38, "ahead of [14]", x.ahead(1), 1);
    due(39, "from(1, 13)", x.from(1, 13), 1);
    due(39, "from(1, 14)", x.from(1, 14), -1);
    slot(x, 1, 2, 14, 1);
    due(38, "15 turfs", x.ahead(1), -2);
    due(40, "15 turfs", x.way(1), -2);
    slot(x, 1, 2, 3, 0);
    due(38, "a heap of none", x.ahead(1), -2);
    slot(x, 1, 2, 3, -1);
    due(38, "a heap below none", x.ahead(1), -2);
    slot(x, 1, 3, 4294967297L);
    due(38, "a heap of very many", x.ahead(1), -2);
    slot(x, 1, 0);
    due(38, "no heap", x.ahead(1), -2);
    due(38, "nothing", x.ahead(2), -6);
    due(39, "nothing", x.from(2, 0), -6);
    due(39, "nothing, i below 0", x.from(2, -1), -2);
    due(40, "nothing", x.way(2), -6);
    due(38, "no such slot", x.ahead(4), -2);
    due(39, "no such slot", x.from(-1, 0), -2);
    due(40, "no such slot", x.way(4), -2);
  }

  private static void cartsMore() {
    TurfHeaps x = of(A);
    due(41, "bring(5, 3)", x.bring(5, 3), 0);
    due(41, "bring(5, 4)", x.bring(5, 4), 2);
    due(41, "bring(5, 5)", x.bring(5, 5), -1);
    due(41, "bring(5, 30)", x.bring(5, 30), -1);
    due(41, "bring(5, 31)", x.bring(5, 31), -2);
    due(41, "bring(5, -1)", x.bring(5, -1), -2);
    due(41, "bring(6, 0)", x.bring(6, 0), -2);
    due(41, "bring(-1, 0)", x.bring(-1, 0), -2);
    due(42, "latest(3)", x.latest(3), -1);
    due(42, "latest(4)", x.latest(4), 5);
    due(42, "latest(5)", x.latest(5), 2);
    due(42, "latest(30)", x.latest(30), -1);
    due(42, "latest(31)", x.latest(31), -2);
    due(42, "latest(-1)", x.latest(-1), -2);
    due(43, "spare()", x.spare(), -1);
    due(41, "bring(0, 0)", x.bring(0, 0), 0);
    due(42, "latest(0)", x.latest(0), -1);
    due(41, "nothing was done", x.count(5), 0);
    row(41, x, 6, 3, 2, 2);
    x = of("moor days 1 law 0 odds 0;heap of 5;"); // [4 1]; with a cart of two or more a third heap is left
    due(41, "bring(0, 3)", x.bring(0, 3), 2);
    due(42, "latest(3)", x.latest(3), 0);
    x = of("moor days 14 law 3 odds 0;heap of 1;");
    due(41, "all twenty", x.bring(0, 5), 20);
  }

  private static void seen() {
    TurfHeaps x = of(A);
    slot(x, 0, 0, 1, 2, 3);
    due(44, "heights(0, 0)", x.heights(0, 0), 1);
    due(45, "least(0, 0)", x.least(0, 0), 4);
    due(46, "greatest(0, 0)", x.greatest(0, 0), 4);
    due(47, "ask(0, 0)", x.ask(0, 0), -1);
    due(48, "leaves(0, 0)", x.leaves(0, 0), 1);
    due(49, "laws(0)", x.laws(0), 9);
    slot(x, 1, 1, 1, 2, 2);
    due(44, "heights(1, 0)", x.heights(1, 0), 2);
    due(45, "least(1, 0)", x.least(1, 0), 2);
    due(46, "greatest(1, 0)", x.greatest(1, 0), 3);
    due(47, "ask(1, 0)", x.ask(1, 0), 2);
    due(48, "leaves(1, 0)", x.leaves(1, 0), 1);
    slot(x, 1, 1, 1, 2, 2, 2, 3, 2);
    due(44, "two rows seen", x.heights(1, 0), 1);
    due(45, "two rows seen", x.least(1, 0), 3);
    slot(x, 1, 1, 0, 700, 700);
    due(44, "none can be", x.heights(1, 0), 0);
    due(45, "none can be", x.least(1, 0), -1);
    due(46, "none can be", x.greatest(1, 0), -1);
    due(47, "none can be", x.ask(1, 0), -1);
    due(48, "none can be", x.leaves(1, 0), 0);
    due(49, "none can be", x.laws(1), 0);
    slot(x, 2, 3);
    due(44, "nothing was seen", x.heights(2, 0), 20);
    due(45, "nothing was seen", x.least(2, 1), 1);
    due(46, "nothing was seen", x.greatest(2, 1), 20);
    due(49, "nothing was seen", x.laws(2), 15);
    long[][] none = {{7, 1, 1}, {-1, 1, 1}, {0, 701, 1}, {0, -1, 1}, {0, 1, 701}, {0, 1, -1}, {0, 1}, {0, 1, 1, 0}};
    for (long[] numbers : none) {
      slot(x, 1, 3, numbers);
      due(44, "heights of no such", x.heights(1, 0), -2);
      due(45, "least of no such", x.least(1, 0), -2);
      due(46, "greatest of no such", x.greatest(1, 0), -2);
      due(47, "ask of no such", x.ask(1, 0), -2);
      due(48, "leaves of no such", x.leaves(1, 0), -2);
      due(49, "laws of no such", x.laws(1), -2);
    }
    due(44, "heights(3, 0)", x.heights(3, 0), -6);
    due(45, "least(3, 0)", x.least(3, 0), -6);
    due(46, "greatest(3, 0)", x.greatest(3, 0), -6);
    due(47, "ask(3, 0)", x.ask(3, 0), -6);
    due(48, "leaves(3, 0)", x.leaves(3, 0), -6);
    due(49, "laws(3)", x.laws(3), -6);
    due(44, "heights(3, 2)", x.heights(3, 2), -2);
    due(44, "heights(0, -1)", x.heights(0, -1), -2);
    due(44, "heights(4, 0)", x.heights(4, 0), -2);
    due(47, "ask(-1, 0)", x.ask(-1, 0), -2);
    due(49, "laws(4)", x.laws(4), -2);
    due(6, "the heap told stays", x.told(0), 4);
    x = of(BARE);
    slot(x, 0, 0, 1, 0, 0);
    due(49, "no heaps were seen", x.laws(0), 15);
    due(44, "no heap told", x.heights(0, 0), -2);
  }

  private static void otherLaws() {
    TurfHeaps x = of(A);
    int[] by = {3, 3, 7, 3};
    for (int l = 0; l < 4; l++) due(50, "by(" + l + ")", x.by(l), by[l]);
    due(50, "by(4)", x.by(4), -2);
    due(50, "by(-1)", x.by(-1), -2);
    due(51, "law()", x.law(), 2);
    due(51, "the law told stays", x.count(1), 0);
  }

  private static void shares() {
    TurfHeaps x = of("moor days 1 law 0 odds 0;cart of 1 at 0;cart of 1 at 0;cart of 1 at 0;");
    due(52, "worth(0)", x.worth(0), 0);
    due(52, "worth(5)", x.worth(5), 1);
    due(52, "worth(7)", x.worth(7), 1);
    due(52, "worth(8)", x.worth(8), -2);
    due(52, "worth(-1)", x.worth(-1), -2);
    for (int c = 0; c < 3; c++) {
      due(53, "share above", x.share(c, 0), 1);
      due(53, "share below", x.share(c, 1), 3);
    }
    due(53, "share(3, 0)", x.share(3, 0), -1000);
    due(53, "share(-1, 0)", x.share(-1, 0), -1000);
    due(53, "share(0, 2)", x.share(0, 2), -1000);
    x.brings(1, 0);
    due(52, "carts of acts come all the same", x.worth(0), 1);
    due(53, "share of nothing, above", x.share(0, 0), 0);
    due(53, "share of nothing, below", x.share(0, 1), 1);
    x.undo();
    due(53, "share below behind undo()", x.share(0, 1), 3);
    // Alone on the last day: a whole heap more; at 5 it never comes.
    x = of("moor days 1 law 0 odds 0;cart of 9 at 1;cart of 9 at 5;");
    due(53, "share(0, 0)", x.share(0, 0), 1);
    due(53, "share(0, 1)", x.share(0, 1), 1);
    due(53, "share(1, 0)", x.share(1, 0), 0);
  }

  private static void takers() {
    TurfHeaps x = of(A);
    due(54, "wins(0, 3)", x.wins(0, 3), 1);
    due(55, "moves(0, 3)", x.moves(0, 3), 2); // three off four, or one off one
    due(56, "move(0, 3)", x.move(0, 3), 4003);
    due(54, "wins(0, 700)", x.wins(0, 700), 1);
    due(55, "moves(0, 700)", x.moves(0, 700), 1);
    due(56, "move(0, 700)", x.move(0, 700), 4003);
    due(55, "moves(0, 1)", x.moves(0, 1), 2);
    due(56, "move(0, 1)", x.move(0, 1), 4001);
    due(55, "moves(1, 3)", x.moves(1, 3), 1);
    due(56, "move(1, 3)", x.move(1, 3), 3001);
    due(54, "wins(2, 2)", x.wins(2, 2), 1);
    due(56, "move(2, 2)", x.move(2, 2), 1001); // [2 2] are left
    due(55, "moves(2, 2)", x.moves(2, 2), 1);  // to leave [2 1] with value 3 off a heap of 2 can't be
    for (int k : new int[] {0, 701, -1}) {
      due(54, "wins(0, k)", x.wins(0, k), -2);
      due(55, "moves(0, k)", x.moves(0, k), -2);
      due(56, "move(0, k)", x.move(0, k), -2);
    }
    due(54, "wins(7, 1)", x.wins(7, 1), -2);
    due(55, "moves(7, 1)", x.moves(7, 1), -2);
    due(56, "move(-1, 1)", x.move(-1, 1), -2);
    TurfHeaps y = of(B);
    due(54, "wins of [3 3]", y.wins(1, 2), 0);
    due(55, "moves of [3 3]", y.moves(1, 2), 0);
    due(56, "move of [3 3]", y.move(1, 2), -1);
    due(54, "wins of [2 2 2], one at a time", y.wins(2, 1), 0);
    due(55, "like heights count as one", y.moves(2, 2), 1);
    due(56, "a whole heap of [2 2 2]", y.move(2, 2), 2002);
  }

  private static void late() {
    TurfHeaps x = of("moor days 2 law 0 odds 5; cart of 3 at 2; cart of 1 at 1;");
    int[][] gets = {{0, 0, 7, 8}, {1, 0, 2, 3}, {0, 1, 7, 7}, {1, 1, 2, 2}};
    for (int[] g : gets) {
      due(58, "gets, the first", x.gets(0, 1, g[0], g[1], 0), g[2]);
      due(58, "gets, the second", x.gets(0, 1, g[0], g[1], 1), g[3]);
    }
    due(58, "gets turned round", x.gets(1, 0, 0, 0, 0), 7);
    due(57, "rests(0, 1)", x.rests(0, 1), 1);
    due(57, "rests(0, 0)", x.rests(0, 0), -2);
    due(57, "rests(0, 2)", x.rests(0, 2), -2);
    due(57, "rests(-1, 0)", x.rests(-1, 0), -2);
    due(58, "one twice", x.gets(1, 1, 0, 0, 0), -1000);
    due(58, "no such cart", x.gets(0, 2, 0, 0, 0), -1000);
    due(58, "no such choice", x.gets(0, 1, 2, 0, 0), -1000);
    due(58, "no such choice", x.gets(0, 1, 0, -1, 0), -1000);
    due(58, "no such what", x.gets(0, 1, 0, 0, 2), -1000);
    x = of("moor days 2 law 0 odds 0;heap of 1;cart of 1 at 1;cart of 1 at 1;");
    int[][] more = {{0, 0, 5, 7}, {1, 0, 5, 6}, {0, 1, 6, 5}, {1, 1, 6, 4}};
    for (int[] g : more) {
      due(58, "gets, the first", x.gets(0, 1, g[0], g[1], 0), g[2]);
      due(58, "gets, the second", x.gets(0, 1, g[0], g[1], 1), g[3]);
    }
    due(57, "rests(0, 1)", x.rests(0, 1), 3);
    x = of("moor days 1 law 0 odds 0;cart of 1 at 1;cart of 1 at 1;");
    due(58, "below 0", x.gets(0, 1, 1, 1, 0), -1);
    due(58, "below 0", x.gets(0, 1, 1, 1, 1), -1);
  }

  private static void chances() {
    TurfHeaps x = of(A);
    due(59, "chance(0, 3, 0)", x.chance(0, 3, 0), 0);
    due(59, "chance(0, 3, 1)", x.chance(0, 3, 1), 1);
    due(59, "chance(1, 3, 0)", x.chance(1, 3, 0), 49);
    due(59, "chance(1, 3, 1)", x.chance(1, 3, 1), 100);
    due(59, "chance(1, 2, 0)", x.chance(1, 2, 0), 1);
    due(59, "chance(1, 2, 1)", x.chance(1, 2, 1), 1);
    due(60, "mean(0, 0)", x.mean(0, 0), 2);
    due(60, "mean(0, 1)", x.mean(0, 1), 1);
    due(60, "mean(1, 0)", x.mean(1, 0), 249);
    due(60, "mean(1, 1)", x.mean(1, 1), 100);
    due(59, "chance(0, 700, 0)", x.chance(0, 700, 0), 0);
    due(59, "chance(0, 701, 0)", x.chance(0, 701, 0), -2);
    due(59, "chance(0, -1, 0)", x.chance(0, -1, 0), -2);
    due(59, "chance(0, 0, 2)", x.chance(0, 0, 2), -2);
    due(59, "chance(5, 0, 0)", x.chance(5, 0, 0), 1);
    due(59, "chance(6, 0, 0)", x.chance(6, 0, 0), -2);
    due(60, "mean(6, 0)", x.mean(6, 0), -2);
    due(60, "mean(-1, 0)", x.mean(-1, 0), -2);
    due(60, "mean(0, 2)", x.mean(0, 2), -2);
    // One heap of two becomes two, unless all eight days are wet: 1 - 1 / 256 of two heaps.
    x = of("moor days 16 law 2 odds 5;heap of 2;");
    due(59, "chance(7, 2, 0)", x.chance(7, 2, 0), 255);
    due(59, "chance(7, 2, 1)", x.chance(7, 2, 1), 256);
    due(60, "mean(7, 0)", x.mean(7, 0), 511);
    due(60, "mean(7, 1)", x.mean(7, 1), 256);
    due(59, "chance(8, 2, 0)", x.chance(8, 2, 0), -2);
    due(60, "mean(8, 0)", x.mean(8, 0), -2);
    x = of("moor days 16 law 2 odds 1;heap of 2;");
    due(59, "chance(7, 2, 0)", x.chance(7, 2, 0), 99999999);
    due(59, "chance(7, 2, 1)", x.chance(7, 2, 1), 100000000);
    x = of("moor days 3 law 2 odds 10;heap of 2;");
    due(59, "always wet", x.chance(2, 2, 0), 0);
    due(60, "always wet", x.mean(2, 0), 1);
    x = of("moor days 3 law 2 odds 0;heap of 2;");
    due(59, "never wet", x.chance(2, 2, 0), 1);
  }

  private static void acts() {
    TurfHeaps x = of(A);
    due(61, "brings(5, 6)", x.brings(5, 6), 4);
    row(61, x, 6, 5, 3, 2, 2);
    due(62, "away(6)", x.away(6), 3);
    row(62, x, 6, 3, 2, 2);
    due(67, "rate with acts", x.rate(0, 1), -5);
    due(67, "rate of none such, with acts", x.rate(2, 1), -2);
    due(69, "image(0)", x.image(0), 0);
    due(63, "undo()", x.undo(), 1);
    row(63, x, 6, 5, 3, 2, 2);
    due(64, "anew()", x.anew(), 1);
    due(64, "anew() without", x.anew(), 0);
    due(63, "undo() without", x.undo(), -5);
    row(64, x, 6, 3, 2, 2);
    due(70, "back(0)", x.back(0), 0);
    due(70, "acts", x.count(5), 2);
    row(70, x, 6, 3, 2, 2);
    x.anew();
    due(62, "away ahead of the cart", x.away(5), 2); // [3 1] [2 2]
    row(62, x, 5, 3, 1);
    due(61, "the cart comes first, and goes", x.brings(20, 5), 3);
    row(62, x, 5, 3, 3, 1);
    x.anew();
    due(61, "brings(0, 0)", x.brings(0, 0), -2);
    due(61, "brings(21, 0)", x.brings(21, 0), -2);
    due(61, "brings(1, 7)", x.brings(1, 7), -2);
    due(61, "brings(1, -1)", x.brings(1, -1), -2);
    due(62, "away(7)", x.away(7), -2);
    due(62, "away(-1)", x.away(-1), -2);
    for (int i = 1; i <= 20; i++) due(61, "act " + i, x.brings(20, 6), 3 + i);
    due(61, "a 21st", x.brings(1, 0), -5);
    due(62, "a 21st", x.away(0), -5);
    due(61, "a 21st, none such", x.brings(1, 7), -2);
    due(62, "a 21st, none such", x.away(7), -2);
    due(63, "undo()", x.undo(), 19);
    due(62, "away(6)", x.away(6), 21);
    due(64, "anew()", x.anew(), 20);
    due(67, "rate(0, 1)", x.rate(0, 1), 4);
    due(67, "told(0)", x.told(0), 1);
    row(67, x, 1, 2);
    due(67, "rate(0, 20)", x.rate(0, 20), 1);
    due(67, "rate(0, 21)", x.rate(0, 21), -2);
    due(67, "rate(0, 0)", x.rate(0, 0), -2);
    due(67, "rate(-1, 1)", x.rate(-1, 1), -2);
  }

  private static void summers() {
    // Seed 1 draws 8 8 3 5 1 7 0 9 2 6, the last digits of 16838 5758 10113 17515 31051 5627 ..
    TurfHeaps x = of(A);
    due(65, "drawn(1, 0)", x.drawn(1, 0), 16);
    due(65, "drawn(1, 1)", x.drawn(1, 1), 3);
    due(66, "luck(1, 1, 3)", x.luck(1, 1, 3), 1);
    due(66, "luck(1, 1, 4)", x.luck(1, 1, 4), 0);
    due(66, "luck(0, 20, 0)", x.luck(0, 20, 0), 20);
    due(66, "luck(0, 20, 700)", x.luck(0, 20, 700), 0);
    due(65, "drawn(-1, 0)", x.drawn(-1, 0), -2);
    due(65, "drawn(2000000001, 0)", x.drawn(2000000001, 0), -2);
    due(65, "drawn(0, 2)", x.drawn(0, 2), -2);
    due(66, "luck(-1, 1, 0)", x.luck(-1, 1, 0), -2);
    due(66, "luck(2000000001, 1, 0)", x.luck(2000000001, 1, 0), -2);
    due(66, "luck(2000000000, 20, 0)", x.luck(2000000000, 20, 0), 20);
    due(66, "luck(0, 0, 0)", x.luck(0, 0, 0), -2);
    due(66, "luck(0, 21, 0)", x.luck(0, 21, 0), -2);
    due(66, "luck(0, 1, -1)", x.luck(0, 1, -1), -2);
    due(66, "luck(0, 1, 701)", x.luck(0, 1, 701), -2);
    x = of("moor days 10 law 0 odds 6;");
    due(65, "drawn(1, 0)", x.drawn(1, 0), 4 + 8 + 16 + 64 + 256);
    x = of("moor days 16 law 0 odds 0;");
    due(65, "never wet", x.drawn(1, 0), 0);
    x = of("moor days 16 law 0 odds 10;");
    due(65, "always wet", x.drawn(2000000000, 0), 65535);
    // A heap of two becomes two heaps, unless the one day is wet: seeds 0, 1 draw 0, 8.
    x = of("moor days 1 law 2 odds 1;heap of 2;");
    due(65, "drawn(0, 1)", x.drawn(0, 1), 1);
    due(65, "drawn(1, 1)", x.drawn(1, 1), 2);
    due(66, "luck(0, 2, 2)", x.luck(0, 2, 2), 1);
  }

  private static void countsAndImages() {
    TurfHeaps x = of(A);
    x.row(2, 1, 4);
    x.row(3, 1, 0);
    x.feed(0, 0, 0, 0, 0);
    x.away(0);
    int[] counts = {6, 0, 3, 2, 1, 1, 4, 20, 2};
    for (int what = 0; what < 9; what++) due(68, "count(" + what + ")", x.count(what), counts[what]);
    due(68, "count(9)", x.count(9), -1);
    due(68, "count(-1)", x.count(-1), -1);
    due(69, "image(3)", x.image(3), -2);
    due(69, "image(-1)", x.image(-1), -2);
    due(70, "back(3)", x.back(3), -2);
    due(70, "back(-1)", x.back(-1), -2);
    due(70, "back(1)", x.back(1), -6);
    due(69, "image(1)", x.image(1), 0);
    x.end(0);
    Edges.put(x, B);
    due(4, "moor()", x.moor(), 4);
    due(69, "image(2)", x.image(2), 0);
    x.rate(0, 9);
    due(70, "back(1)", x.back(1), 0);
    due(70, "days", x.count(0), 6);
    due(70, "acts", x.count(5), 1);
    due(70, "the tape stays", x.count(7), 0);
    due(70, "slots stay", x.count(8), 2);
    due(70, "back(2)", x.back(2), 0);
    due(70, "what it was at the image", x.told(0), 1);
    due(70, "back(2) again", x.back(2), 0);
    x.moor();
    due(69, "an image of no moor", x.image(0), 0);
    x.back(1);
    due(70, "back to no moor", x.back(0), 0);
    due(70, "no moor", x.heaps(0), -2);
    due(70, "lines", x.count(6), 0);
  }

  private static void slots() {
    TurfHeaps x = of(A);
    due(71, "row(4, 0, 1)", x.row(4, 0, 1), -2);
    due(71, "row(-1, 0, 1)", x.row(-1, 0, 1), -2);
    due(71, "row(0, 4, 1)", x.row(0, 4, 1), -2);
    due(71, "row(0, -1, 1)", x.row(0, -1, 1), -2);
    due(71, "row(0, 0, 61)", x.row(0, 0, 61), -2);
    due(71, "row(4, 0, -1)", x.row(4, 0, -1), -2);
    due(71, "row(0, 0, -1)", x.row(0, 0, -1), -3);
    due(71, "no slot has a row", x.count(8), 0);
    due(72, "write to nothing", x.write(0, 0, 1), -6);
    due(72, "write to no slot", x.write(4, 0, 1), -2);
    due(73, "paste of nothing", x.paste(0, 0, 0, 0, 0), -6);
    due(71, "row(0, 0, 60)", x.row(0, 0, 60), 0);
    due(72, "write(0, 59, 1)", x.write(0, 59, 1), 0);
    due(72, "write(0, 60, 1)", x.write(0, 60, 1), -7);
    due(72, "write(0, -1, 1)", x.write(0, -1, 1), -7);
    slot(x, 0, 0, 257);
    due(72, "cut to a byte", x.way(0), 0);
    due(39, "cut to a byte", x.from(0, 0), 1);
    slot(x, 0, 1, 65536 + 3);
    due(39, "cut to two bytes", x.from(0, 0), 1); // [1 1 1] ahead of [3]
    slot(x, 0, 2, 4294967296L + 3);
    due(39, "cut to four bytes", x.from(0, 0), 1);
    slot(x, 0, 3, 4294967296L + 3);
    due(39, "not cut", x.from(0, 0), -2);
    due(71, "row(0, 0, -1)", x.row(0, 0, -1), -3);
    due(71, "the slot stays", x.write(0, 0, 3), 0);
    due(71, "all 0 again", x.row(0, 0, 1), 0);
    due(71, "all 0 again", x.ahead(0), -2);
    pastes(x);
  }

  private static void pastes(TurfHeaps x) {
    slot(x, 0, 0, 1, 2, 3, 4, 0);
    slot(x, 1, 0, 9, 9);
    slot(x, 2, 1, 9, 9);
    due(73, "paste to no slot", x.paste(0, 0, 4, 0, 1), -2);
    due(73, "paste of no slot", x.paste(-1, 0, 0, 0, 1), -2);
    due(73, "paste to nothing", x.paste(0, 0, 3, 0, 1), -6);
    due(73, "paste to another width", x.paste(0, 0, 2, 0, -1), -8);
    int[][] beyond = {{-1, 0, 1}, {0, -1, 1}, {0, 0, -1}, {0, 0, 3}, {5, 0, 1}, {0, 2, 1}, {2147483647, 0, 1},
      {1, 1, 2147483647}, {0, 2147483647, 0}, {4, 0, 2}};
    for (int[] b : beyond) due(73, "paste beyond", x.paste(0, b[0], 1, b[1], b[2]), -7);
    due(73, "nothing happened", x.way(1), -2); // 9 and 9 are 18
    due(73, "paste of none at the end", x.paste(0, 5, 1, 2, 0), 0);
    due(73, "paste(0, 2, 1, 0, 2)", x.paste(0, 2, 1, 0, 2), 0);
    due(73, "[4 3] is in the slot", x.ahead(1), 2); // [5 1 1], [4 1 1 1]
    due(73, "[4 3] is in the slot", x.from(1, 0), 5);
    due(73, "paste onto itself", x.paste(0, 0, 0, 1, 4), 0);
    due(73, "[4 3 2 1 1] is in the slot", x.ahead(0), 1); // [4 3 2 2]
    due(73, "[4 3 2 1 1] is in the slot", x.from(0, 3), 2);
    due(73, "paste back onto itself", x.paste(0, 1, 0, 0, 4), 0);
    due(73, "[4 4 3 2 1] is in the slot", x.ahead(0), 1); // 14 turfs: [5 4 3 2]
    due(73, "[4 4 3 2 1] is in the slot", x.from(0, 0), 5);
  }

  public static void main(String[] args) {
    newObject();
    tape();
    moorTaken();
    faults();
    toldAndCarts();
    rowsOfDays();
    stairsAndRounds();
    lawsByHand();
    bareMoor();
    allRows();
    slotRows();
    cartsMore();
    seen();
    otherLaws();
    shares();
    takers();
    late();
    chances();
    acts();
    summers();
    countsAndImages();
    slots();
    System.out.println(wrong == 0 ? checks + " answers are as due" : wrong + " of " + checks + " answers are not as due");
    if (wrong != 0) System.exit(1);
  }
}
