import java.util.Arrays;

/** What was seen, and what a heap was at first by it: term VI, promises 44 to 49. */
final class EdgesOfSeen extends Edges {
  // Rows that tell of nothing that can be seen on A, of 6 days: days, heaps, turfs out of bounds, not three each.
  private static final long[][] WRONG = {{-1, 1, 1}, {7, 1, 1}, {0, -1, 1}, {0, 701, 1}, {0, 1, -1}, {0, 1, 701}, {0}, {0, 1}, {0, 1, 1, 0},
    {0, 2, 4, 0, 2}, {0, 2, 4, 7, 2, 4}, {0, 2, 4, 0, 2, -1}, {4294967296L, 2, 4}, {0, 4294967298L, 4}, {0, 2, 4294967300L},
    {Long.MIN_VALUE, 0, 0}, {0, 0, Long.MAX_VALUE}};
  // Rows that can be asked about, though nothing may have been so: each bound itself.
  private static final long[][] FINE = {{}, {0, 0, 0}, {6, 0, 0}, {0, 700, 0}, {0, 0, 700}, {6, 700, 700}};

  static void all() {
    termSix();
    heights();
    refused("45", "-2, -6 likewise", TurfHeaps::least);
    refused("46", "NONE, -2, -6 likewise", TurfHeaps::greatest);
    refused("47", "-2, -6 likewise", TurfHeaps::ask);
    refused("48", "-2, -6 likewise", TurfHeaps::leaves);
    leastAndGreatest();
    ask();
    laws();
  }

  private static TurfHeaps with(String text, long... numbers) {
    TurfHeaps x = of(text);
    slot(x, 0, 3, numbers);
    return x;
  }

  private static void termSix() {
    on("VI");
    says("(0: there was none)");
    TurfHeaps x = of("moor days 1 law 0 odds 0;heap of 5;");
    x.away(0);
    slot(x, 0, 0, 0, 0, 0, 1, 0, 0);
    due("heights(0, 0), there were no heaps", x.heights(0, 0), 20);
    slot(x, 0, 0, 0, 0, 1);
    due("heights(0, 0), no heaps and one of 1", x.heights(0, 0), 0);
    slot(x, 0, 0, 0, 1, 0);
    due("heights(0, 0), a heap and none", x.heights(0, 0), 0);
    says("one heap told was of otherwise (1 .. 20)");
    for (int high = 0; high <= 21; high++) {
      TurfHeaps y = with("moor days 1 law 0 odds 0;heap of 5;", 0, 1, high);
      due("heights(0, 0) of " + high, y.heights(0, 0), high >= 1 && high <= 20 ? 1 : 0);
      due("least(0, 0) of " + high, y.least(0, 0), high >= 1 && high <= 20 ? high : -1);
    }
    says("all else (CARTS, acts) as now");
    TurfHeaps z = of("moor days 1 law 0 odds 0;heap of 5;cart of 3 at 0;");
    z.brings(7, 0);
    slot(z, 0, 0, 0, 3, 7);
    due("heights(0, 0)", z.heights(0, 0), 7);
    due("greatest(0, 0)", z.greatest(0, 0), 7);
    z.away(0); // the heap itself, or the 7: two heaps are left
    slot(z, 0, 0, 0, 2, 7);
    due("heights(0, 0), the highest went", z.heights(0, 0), 14); // 7 .. 20
    due("least(0, 0), the highest went", z.least(0, 0), 7);
    due("the heap told stays", z.told(0), 5);
  }

  /** What heights(), least(), greatest(), ask() and leaves() all refuse. */
  private static void refused(String promise, String sentence, SeenCall call) {
    on(promise);
    says(sentence);
    TurfHeaps x = of(A);
    for (long[] numbers : FINE) {
      slot(x, 0, 3, numbers);
      due("of " + Arrays.toString(numbers) + " is refused", call.applyAsInt(x, 0, 0) < -1 ? 1 : 0, 0);
    }
    for (long[] numbers : WRONG) {
      slot(x, 1, 3, numbers);
      due("of " + Arrays.toString(numbers), call.applyAsInt(x, 1, 0), -2);
    }
    onlyFrom(0, 3, -2, "slot", s -> call.applyAsInt(x, s == 1 ? 0 : s, 0));
    onlyFrom(0, 1, -2, "heap", h -> call.applyAsInt(x, 0, h));
    onlyFrom(0, 7, -2, "heap", h -> call.applyAsInt(with(FULL), 0, h));
    due("of nothing", call.applyAsInt(x, 2, 0), -6);
    due("of nothing", call.applyAsInt(x, 3, 1), -6);
    due("of nothing, no such heap", call.applyAsInt(x, 2, 2), -2);
    due("of a moor without heaps", call.applyAsInt(with(BARE), 0, 0), -2);
    TurfHeaps y = new TurfHeaps();
    slot(y, 0, 0);
    due("no moor", call.applyAsInt(y, 0, 0), -2);
    due("no moor, of nothing", call.applyAsInt(y, 1, 0), -2);
  }

  private interface SeenCall {
    int applyAsInt(TurfHeaps x, int slot, int heap);
  }

  private static void heights() {
    refused("44", "-2: there is no such SLOT, heap, a number is none such (heaps 0 .. 700, turfs 0 .. 700; asked last), not three each", TurfHeaps::heights);
    says("how many heights (1 .. 20)");
    due("heights of nothing seen", with(A).heights(0, 0), 20);
    due("heights of nothing seen", with(A).heights(0, 1), 20);
    due("heights of what is now", with(A, 0, 2, 4).heights(0, 0), 1);
    due("heights of what can't be", with(A, 0, 3, 4).heights(0, 0), 0);
    long[] twenty = new long[60];
    for (int i = 0; i < 60; i++) twenty[i] = new long[] {1, 2, 3}[i % 3];
    due("heights of twenty threes", with(A, twenty).heights(0, 0), 1);
    twenty[59] = 2;
    due("heights, the last of twenty is not so", with(A, twenty).heights(0, 0), 0);
    twenty[59] = 701;
    due("heights, the last of sixty numbers is none such", with(A, twenty).heights(0, 0), -2);
    says("-6: it has nothing");
    for (int s = 0; s < 4; s++) due("heights(" + s + ", 0)", of(A).heights(s, 0), -6);
  }

  private static void leastAndGreatest() {
    on("45");
    says("NONE: there is none");
    due("least", with(A, 0, 700, 700).least(0, 0), -1);
    says("The least of these");
    due("least of all", with(A).least(0, 0), 1);
    due("least of 4 .. 15", with(FULL, 16, 18, 19).least(0, 7), 4);
    on("46");
    says("NONE, -2, -6 likewise");
    due("greatest", with(A, 0, 700, 700).greatest(0, 0), -1);
    says("The greatest");
    due("greatest of all", with(A).greatest(0, 0), 20);
    due("greatest of one", with(A, 0, 2, 4).greatest(0, 0), 4);
    due("greatest of 4 .. 15", with(FULL, 16, 18, 19).greatest(0, 7), 15);
  }

  private static void ask() {
    String three = "moor days 8 law 3 odds 0;heap of 5;";
    on("47");
    says("if fewer than now, the first of several");
    due("ask, days 7 and 8 leave 6", with(three).ask(0, 0), 7);
    due("ask, days 10 and 12 leave 10", with(FULL).ask(0, 7), 10);
    due("ask, days 2 and 5 leave 1", with(A, 1, 2, 2).ask(0, 0), 2);
    due("ask, the last day", with("moor days 1 law 2 odds 0;heap of 5;").ask(0, 0), 1);
    due("ask, the last day of sixteen", with("moor days 16 law 2 odds 0;heap of 5;").ask(0, 0), 16);
    says("NONE: none");
    due("ask, by law 1 one heap stays", with("moor days 8 law 1 odds 0;heap of 5;").ask(0, 0), -1);
    due("ask, it is known", with(A, 1, 2, 3).ask(0, 0), -1);
    due("ask, none can be", with(A, 0, 700, 700).ask(0, 0), -1);
    on("48");
    says("(as now without)");
    due("leaves, by law 1 one heap stays", with("moor days 8 law 1 odds 0;heap of 5;").leaves(0, 0), 20);
    due("leaves, it is known", with(A, 1, 2, 3).leaves(0, 0), 1);
    due("leaves, none can be", with(A, 0, 700, 700).leaves(0, 0), 0);
    due("leaves, days 7 and 8 leave 6", with(three).leaves(0, 0), 6);
    due("leaves, days 10 and 12 leave 10", with(FULL).leaves(0, 7), 10);
    due("leaves, days 2 and 5 leave 1", with(A, 1, 2, 2).leaves(0, 0), 1);
    due("leaves, the last day of sixteen leaves 4", with("moor days 16 law 2 odds 0;heap of 5;").leaves(0, 0), 4);
    due("leaves, day 9 leaves 6 of twelve", with(FULL, 16, 18, 19).leaves(0, 7), 6);
  }

  private static void laws() {
    on("49");
    says("LAWS (0 .. 3) by which it is as such a row tells, as bits");
    due("laws of nothing seen", with(A).laws(0), 15);
    due("laws of [3 2] on day 1", with(A, 1, 2, 3).laws(0), 1 + 8); // [2 3] by law 3
    due("laws of [4 1] on day 1", with(A, 1, 2, 4).laws(0), 2);
    due("laws of [3 1 1] on day 1", with(A, 1, 3, 3).laws(0), 4);
    due("laws of what can't be", with(A, 0, 700, 700).laws(0), 0);
    says("-2 (heap aside; no MOOR), -6 likewise");
    TurfHeaps x = of(A);
    for (long[] numbers : FINE) {
      slot(x, 0, 3, numbers);
      due("laws of " + Arrays.toString(numbers) + " is refused", x.laws(0) < 0 ? 1 : 0, 0);
    }
    for (long[] numbers : WRONG) {
      slot(x, 1, 3, numbers);
      due("laws of " + Arrays.toString(numbers), x.laws(1), -2);
    }
    onlyFrom(0, 3, -2, "laws", s -> x.laws(s == 1 ? 0 : s));
    due("laws(2), nothing", x.laws(2), -6);
    due("laws(3), nothing", x.laws(3), -6);
    due("laws of a moor without heaps told", with(BARE, 2, 0, 0).laws(0), 15);
    due("laws of a moor without heaps told", with(BARE, 2, 1, 0).laws(0), 0);
    due("laws, no heaps told, nothing", of(BARE).laws(0), -6);
    TurfHeaps y = new TurfHeaps();
    slot(y, 0, 0);
    due("laws(0), no moor", y.laws(0), -2);
    due("laws(1), no moor, nothing", y.laws(1), -2);
  }
}
