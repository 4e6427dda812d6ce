/** Rows of days, stairs and squares, rows that go round: terms II to IV, promises 8 to 32. */
final class EdgesOfRows extends Edges {
  static void all() {
    daysOfARow();
    steps();
    rounds();
    shapes();
    countsOfDays();
    heapOfDay();
    stepsFromDays();
    overAllDays();
    stairsAndSquares();
    turnedOver();
    whichIsAbove();
    rings();
    stepsOn();
  }

  private static TurfHeaps none() {
    return new TurfHeaps();
  }

  private static void daysOfARow() {
    on("II");
    says("heaps, the highest first (of turfs, all above 0)");
    TurfHeaps x = heaps(1, 0, 1, 20, 7);
    row(x, 0, 20, 7, 1);
    row(x, 1, 19, 6, 3); // the heap of one is gone, none of 0 stands there
    says("In DAY 0 it has the heaps told");
    row(heaps(1, 2, 1), 0, 1);
    row(heaps(1, 0, 20, 20, 20, 20, 20, 20, 20, 20), 0, 20, 20, 20, 20, 20, 20, 20, 20);
    row(of(BARE), 0);
    says("first turfs of CARTS of it (told, of acts) are laid to a heap each; then HEAPS taken away by acts of it (in order): the highest heap goes");
    x = of("moor days 2 law 2 odds 0;heap of 1;cart of 1 at 0;cart of 1 at 2;cart of 1 at 3;");
    row(x, 0, 1, 1);
    row(x, 2, 1, 1, 1); // the one at 3 never comes
    x.away(0);
    x.away(0);
    x.brings(9, 0); // goes first, though it came behind the two
    row(x, 0, 1);
    x.away(0);
    row(x, 0);
    x.away(0); // there is none any more
    row(x, 0);
    row(x, 1);
    row(x, 2, 1);
    x.away(2);
    x.brings(20, 2);
    row(x, 2, 1);
    says("In WET days no STEP is made from them");
    TurfHeaps wet = of("moor days 3 law 2 odds 10;heap of 4;cart of 1 at 3;");
    due("drawn(1, 1), all wet, the cart comes all the same", wet.drawn(1, 1), 2);
    due("heaps(3), told without wet days", wet.heaps(3), 5);
  }

  private static void steps() {
    says("0: one off each heap");
    row(heaps(1, 0, 1), 1, 1);
    row(heaps(1, 0, 1, 1), 1, 2);
    row(heaps(1, 0, 2), 1, 1, 1);
    says("1: one off each heap but one of the highest");
    row(heaps(1, 1, 2, 2), 1, 2, 1, 1);
    row(heaps(1, 1, 1, 1), 1, 1, 1);
    row(heaps(1, 1, 1, 1, 1), 1, 2, 1);
    row(heaps(1, 1, 3, 3, 3), 1, 3, 2, 2, 2);
    says("2: one off each heap of two or more");
    row(heaps(1, 2, 2), 1, 1, 1);
    row(heaps(1, 2, 1, 2, 3), 1, 2, 2, 1, 1);
    says("3: two off each heap of two or more, one off each heap of one");
    row(heaps(1, 3, 1), 1, 1);
    row(heaps(1, 3, 2), 1, 2);
    row(heaps(1, 3, 3), 1, 2, 1);
    row(heaps(1, 3, 3, 2, 1), 1, 5, 1);
    says("no new one, if none is taken: the ROW stays as it is");
    row(heaps(1, 1, 20), 1, 20);
    row(heaps(1, 2, 1, 1, 1), 1, 1, 1, 1);
    for (int law = 0; law < 4; law++) row(heaps(1, law), 1);
    says("heaps of none are gone");
    row(heaps(1, 0, 1, 1, 1, 1, 1, 1, 1, 1), 1, 8);
    row(heaps(1, 3, 2, 2, 1), 1, 5);
  }

  // No row was found that needs more; 630 turfs end as a stair of 35. A second program told how far it is.
  private static final int LONG_TAIL = 1157;
  private static final int LONG_LENGTH = 1;
  private static final int LONG_RING = 35;

  /** The row that goes furthest of all that were found: 8 heaps, 6 carts and 19 acts on one day. */
  private static TurfHeaps longRound() {
    TurfHeaps x = of("moor days 1 law 0 odds 0;heap of 20;heap of 18;heap of 20;heap of 4;heap of 20;heap of 20;heap of 20;heap of 14;"
        + "cart of 20 at 0;".repeat(6));
    for (int t : new int[] {17, 18, 19}) x.brings(t, 0);
    for (int i = 0; i < 16; i++) x.brings(20, 0);
    return x;
  }

  private static void rounds() {
    on("III");
    says("by STEPS alone (no CARTS, acts, not WET)");
    TurfHeaps x = of(A.replace("odds 3", "odds 10"));
    x.brings(20, 1);
    x.away(2);
    due("tail(0) of [4 1]", x.tail(0), 1);
    due("length(0) of [3 2] [2 2 1] [3 1 1]", x.length(0), 3);
    due("later(0, 3, 2)", x.later(0, 3, 2), 1);
    says("as many STEPS as there are ahead of the first ROW that comes again (TAIL), as many as lead from it to itself (LENGTH)");
    due("tail(0) of [2 2], on the ring", heaps(1, 0, 2, 2).tail(0), 0);
    due("length(0) of [2 2]", heaps(1, 0, 2, 2).length(0), 3);
    due("tail(0) of [2 1], it steps to itself", heaps(1, 0, 2, 1).tail(0), 0);
    due("length(0) of [2 1]", heaps(1, 0, 2, 1).length(0), 1);
    due("tail(0) of [3]", heaps(1, 0, 3).tail(0), 1);
    due("tail(0) of [1 1 1]", heaps(1, 0, 1, 1, 1).tail(0), 2);
    due("length(0) of [1 1 1]", heaps(1, 0, 1, 1, 1).length(0), 1);
    says("both together 2,000 at most are gone (else NONE)");
    TurfHeaps y = longRound();
    due("tail(0)", y.tail(0), LONG_TAIL);
    due("length(0)", y.length(0), LONG_LENGTH);
    due("ring(0)", y.ring(0), LONG_RING);
    for (int turfs : new int[] {1, 2, 1999, 2000}) {
      due("tail of a heap of " + turfs + " by law 2", FarRounds.of(turfs)[0], turfs - 1);
      due("length of a heap of " + turfs + " by law 2", FarRounds.of(turfs)[1], 1);
    }
    for (int turfs : new int[] {2001, 2002, 4000, 5000, 100000}) due("tail of a heap of " + turfs + " by law 2", FarRounds.of(turfs)[0], -1);
  }

  private static void shapes() {
    on("IV");
    says("as many heaps as the highest has turfs; the heap i (from 1) has as many turfs as there are heaps of i or more");
    TurfHeaps x = heaps(1, 0, 20, 1);
    due("flip(0, 0)", x.flip(0, 0), 2);
    due("flip(0, 1)", x.flip(0, 1), 1);
    due("flip(0, 19)", x.flip(0, 19), 1);
    due("flip(0, 20)", x.flip(0, 20), -1);
    says("STAIR: heaps of k, k less 1, .., 1");
    int[][] are = {{1}, {2, 1}, {1, 3, 2}, {8, 7, 6, 5, 4, 3, 2, 1}};
    for (int[] row : are) due("stair(0)", heaps(1, 0, row).stair(0), 1);
    int[][] not = {{2}, {1, 1}, {3, 1}, {3, 2}, {2, 2, 1}, {2, 1, 1}, {3, 3, 2, 1}, {4, 3, 2}, {3, 1, 1}, {9, 7, 6, 5, 4, 3, 2, 1}};
    for (int[] row : not) due("stair(0)", heaps(1, 0, row).stair(0), 0);
    says("SQUARE: the greatest k such that there are k heaps of k or more");
    int[][] rows = {{1}, {20}, {1, 1, 1}, {2, 1}, {2, 2}, {3, 2, 2}, {3, 3, 2}, {3, 3, 3}, {8, 8, 8, 8, 8, 8, 8, 7}, {8, 8, 8, 8, 8, 8, 8, 8}};
    int[] sides = {1, 1, 1, 1, 2, 2, 2, 3, 7, 8};
    for (int i = 0; i < rows.length; i++) due("square(0)", heaps(1, 0, rows[i]).square(0), sides[i]);
    TurfHeaps y = of("moor days 1 law 0 odds 0;" + "heap of 20;".repeat(8) + "cart of 20 at 0;".repeat(6));
    for (int i = 0; i < 5; i++) y.brings(20, 0);
    due("square(0) of 19 heaps of 20", y.square(0), 19);
    y.brings(20, 0);
    due("square(0) of 20 heaps of 20", y.square(0), 20);
    y.brings(20, 0);
    due("square(0) of 21 heaps of 20", y.square(0), 20);
    says("(a ROW is ABOVE itself; so are two without heaps)");
    due("above(0, 0)", heaps(1, 0, 5).above(0, 0), 0);
    due("above(0, 1) of none", heaps(1, 0).above(0, 1), 0);
  }

  private static void countsOfDays() {
    on("8");
    says("-2: there is none such, no MOOR");
    TurfHeaps a = of(A);
    TurfHeaps full = of(FULL);
    onlyDays("heaps", 0, 6, a::heaps);
    onlyDays("heaps", 0, 16, full::heaps);
    due("heaps(0), no moor", none().heaps(0), -2);
    on("10");
    says("-2: there is none such, no MOOR");
    onlyDays("all", 0, 6, a::all);
    onlyDays("all", 0, 16, full::all);
    due("all(0), no moor", none().all(0), -2);
    TurfHeaps less = heaps(2, 1, 20, 3);
    less.away(1);
    due("all(0)", less.all(0), 23);
    due("all(1), the heap of 20 went", less.all(1), 3);
    due("all(2)", less.all(2), 3);
    due("all(16)", full.all(16), 132 + 21);
    due("all(15)", full.all(15), 132 + 21);
    due("all(14)", full.all(14), 132 + 15);
    on("11");
    says("heaps of n (1 .. 700) turfs");
    onlyFrom(1, 700, -2, "many(0, ..)", n -> a.many(0, n));
    due("many(0, 1)", a.many(0, 1), 1);
    due("many(0, 2)", a.many(0, 2), 0);
    due("many(0, 4)", a.many(0, 4), 1);
    due("many(1, 1) of [2 1] by law 2", heaps(1, 2, 2, 1).many(1, 1), 3);
    due("many(0, 700)", a.many(0, 700), 0);
    says("-2: there are none such");
    onlyDays("many(.., 1)", 0, 6, d -> a.many(d, 1));
    due("many(0, 1), no moor", none().many(0, 1), -2);
    on("12");
    says("-2: there is none such, no MOOR");
    onlyDays("sorts", 0, 6, a::sorts);
    due("sorts(0), no moor", none().sorts(0), -2);
    due("sorts(0), no heaps", of(BARE).sorts(0), 0);
    due("sorts(1) of [2 1] by law 2", heaps(1, 2, 2, 1).sorts(1), 1);
    due("sorts(1) of [3 2 1] by law 2", heaps(1, 2, 3, 2, 1).sorts(1), 2);
    on("13");
    says("(0 without)");
    due("spread(0)", of(BARE).spread(0), 0);
    due("spread(0) of one heap", heaps(1, 0, 20).spread(0), 0);
    due("spread(0) of 20 and 1", heaps(1, 0, 20, 1).spread(0), 19);
    says("-2 likewise");
    onlyDays("spread", 0, 6, a::spread);
    due("spread(0), no moor", none().spread(0), -2);
    on("14");
    says("-2: there is none such, no MOOR");
    onlyDays("odd", 0, 6, a::odd);
    due("odd(0), no moor", none().odd(0), -2);
    due("odd(0), no heaps", of(BARE).odd(0), 0);
    due("odd(0) of 1 2 19 20", heaps(1, 0, 1, 2, 19, 20).odd(0), 2);
    due("odd(0) of 3 3 4 5", heaps(1, 0, 3, 3, 4, 5).odd(0), 3);
  }

  private static void heapOfDay() {
    on("9");
    TurfHeaps x = of(A);
    says("NONE: there is no such heap");
    due("heap(0, 1)", x.heap(0, 1), 1);
    due("heap(0, 2)", x.heap(0, 2), -1);
    due("heap(0, 2147483647)", x.heap(0, Integer.MAX_VALUE), -1);
    due("heap(0, 0) of none", of(BARE).heap(0, 0), -1);
    says("-2: there are none such");
    onlyDays("heap(.., 0)", 0, 6, d -> x.heap(d, 0));
    due("heap(7, 9)", x.heap(7, 9), -2);
    due("heap(0, 0), no moor", none().heap(0, 0), -2);
    says("i is below 0");
    due("heap(0, -1)", x.heap(0, -1), -2);
    due("heap(0, -2147483648)", x.heap(0, Integer.MIN_VALUE), -2);
    due("heap(0, -1) of none", of(BARE).heap(0, -1), -2);
  }

  private static void stepsFromDays() {
    TurfHeaps x = of(A);
    on("15");
    says("in the STEP from a DAY ahead of the last");
    due("taken(5)", x.taken(5), 3);
    due("taken(6)", x.taken(6), -2);
    due("taken(0) of one day", heaps(1, 0, 5).taken(0), 1);
    due("taken(1) of one day", heaps(1, 0, 5).taken(1), -2);
    due("taken(0), none is", heaps(1, 1, 5).taken(0), 0);
    due("taken(0), none is", heaps(1, 2, 1, 1).taken(0), 0);
    due("taken(0) without heaps", of(BARE).taken(0), 0);
    due("taken(0) of eight 20s by law 3", heaps(1, 3, 20, 20, 20, 20, 20, 20, 20, 20).taken(0), 16);
    says("-2: there is none such");
    onlyDays("taken", 0, 5, x::taken);
    onlyDays("taken", 0, 15, of(FULL)::taken);
    due("taken(0), no moor", none().taken(0), -2);
    on("16");
    says("-2 likewise");
    onlyDays("gone", 0, 5, x::gone);
    onlyDays("gone", 0, 15, of(FULL)::gone);
    due("gone(0), no moor", none().gone(0), -2);
    due("gone(0) without heaps", of(BARE).gone(0), 0);
    due("gone(0) of [2 2 1] by law 3", heaps(1, 3, 2, 2, 1).gone(0), 3);
    due("gone(0) of [2 2 1] by law 2", heaps(1, 2, 2, 2, 1).gone(0), 0);
    due("gone(0) of [1 1 1] by law 1", heaps(1, 1, 1, 1, 1).gone(0), 2);
  }

  private static void overAllDays() {
    TurfHeaps x = heaps(5, 0, 2, 2); // [2 2] [2 1 1] [3 1], and round again
    on("17");
    says("-2: there is no MOOR");
    due("most(), no moor", none().most(), -2);
    due("most() without heaps", of(BARE).most(), 0);
    due("most()", x.most(), 3);
    due("most() on day 0", heaps(1, 0, 1, 1, 1).most(), 3);
    due("most() on the last day", heaps(1, 0, 2).most(), 2);
    on("18");
    says("the first of several");
    due("peak() of days 2 and 5", x.peak(), 2);
    says("(without heaps at all 0)");
    due("peak()", of(BARE).peak(), 0);
    due("peak() on day 1", heaps(2, 0, 1, 1, 1).peak(), 1);
    due("peak() with one heap on the last day", of("moor days 2 law 0 odds 0;cart of 1 at 2;").peak(), 2);
    says("-2 likewise");
    due("peak(), no moor", none().peak(), -2);
    on("19");
    says("(it, too)");
    due("same(0)", x.same(0), 0);
    due("same(1)", x.same(1), 1);
    due("same(2)", x.same(2), 2);
    due("same(3)", x.same(3), 0);
    due("same(5)", x.same(5), 2);
    due("same(2) without heaps", of(BARE).same(2), 0);
    says("-2: there is none such, no MOOR");
    onlyDays("same", 0, 5, x::same);
    due("same(0), no moor", none().same(0), -2);
    on("20");
    says("The first DAY from which on to the last one the ROW is the same");
    due("still(), the last one alone", x.still(), 5);
    due("still(), all days", heaps(16, 0, 1).still(), 0);
    due("still(), from the last but one", heaps(2, 0, 3).still(), 1); // [3] [2 1] [2 1]
    due("still(), from the last but two", heaps(3, 0, 3).still(), 1);
    due("still(), it would be so on days to come", heaps(2, 0, 1, 1, 1).still(), 2); // [1 1 1] [3] [2 1]
    due("still(), as on day 0 but not between", heaps(3, 0, 2, 2).still(), 3);
    says("-2: there is no MOOR");
    due("still(), no moor", none().still(), -2);
    on("21");
    says("-2 likewise");
    due("rows(), no moor", none().rows(), -2);
    due("rows()", x.rows(), 3);
    due("rows(), all alike", heaps(16, 0, 1).rows(), 1);
    due("rows(), all unlike", heaps(1, 0, 2, 2).rows(), 2);
  }

  private static void stairsAndSquares() {
    TurfHeaps x = of(A);
    on("22");
    says("(IV; no heaps: 0)");
    due("stair(0)", of(BARE).stair(0), 0);
    says("-2: there is none such, no MOOR");
    onlyDays("stair", 0, 6, x::stair);
    due("stair(0), no moor", none().stair(0), -2);
    on("23");
    says("NONE: in none");
    due("stairs()", x.stairs(), -1);
    due("stairs() without heaps", of(BARE).stairs(), -1);
    due("stairs() on day 0", heaps(1, 0, 1).stairs(), 0);
    due("stairs() on the last day", heaps(1, 0, 3).stairs(), 1);
    due("stairs() a day behind the last", heaps(1, 0, 1, 1, 1).stairs(), -1);
    says("-2: there is no MOOR");
    due("stairs(), no moor", none().stairs(), -2);
    on("24");
    says("(0 without heaps)");
    due("square(0)", of(BARE).square(0), 0);
    says("-2: there is none such, no MOOR");
    onlyDays("square", 0, 6, x::square);
    due("square(0), no moor", none().square(0), -2);
  }

  private static void turnedOver() {
    TurfHeaps x = of(A);
    on("25");
    says("NONE: it has none such");
    due("flip(0, 3)", x.flip(0, 3), 1);
    due("flip(0, 4)", x.flip(0, 4), -1);
    due("flip(0, 2147483647)", x.flip(0, Integer.MAX_VALUE), -1);
    due("flip(0, 0) without heaps", of(BARE).flip(0, 0), -1);
    says("-2: there are none such");
    onlyDays("flip(.., 0)", 0, 6, d -> x.flip(d, 0));
    due("flip(0, 0), no moor", none().flip(0, 0), -2);
    says("i is below 0");
    due("flip(0, -1)", x.flip(0, -1), -2);
    due("flip(0, -2147483648)", x.flip(0, Integer.MIN_VALUE), -2);
    on("26");
    says("(without heaps, too)");
    due("even(0)", of(BARE).even(0), 1);
    due("even(0) of [1]", heaps(1, 0, 1).even(0), 1);
    due("even(0) of [2]", heaps(1, 0, 2).even(0), 0);
    due("even(0) of [2 2]", heaps(1, 0, 2, 2).even(0), 1);
    due("even(0) of [3 3 2]", heaps(1, 0, 3, 3, 2).even(0), 1);
    due("even(0) of [3 2 2]", heaps(1, 0, 3, 2, 2).even(0), 0); // it has [3 3 1]
    says("-2: there is none such, no MOOR");
    onlyDays("even", 0, 6, x::even);
    due("even(0), no moor", none().even(0), -2);
  }

  private static void whichIsAbove() {
    TurfHeaps x = of(A);
    on("27");
    says("0 alike, 1 the first is ABOVE the other one, 2 the other one, 3 neither");
    due("above(0, 0)", x.above(0, 0), 0);
    due("above(6, 6)", x.above(6, 6), 0);
    due("above(0, 1)", x.above(0, 1), 1);
    due("above(1, 0)", x.above(1, 0), 2);
    due("above(0, 1) of [4 1 1] and [3 3]", heaps(1, 0, 4, 1, 1).above(0, 1), 3);
    due("above(1, 0) of [4 1 1] and [3 3]", heaps(1, 0, 4, 1, 1).above(1, 0), 3);
    due("above(0, 1) of [1 1] and [2]", heaps(1, 0, 1, 1).above(0, 1), 2); // two heaps against one
    says("NONE: they have not as many turfs");
    due("above(2, 3)", x.above(2, 3), -1);
    due("above(3, 2)", x.above(3, 2), -1);
    TurfHeaps y = of("moor days 1 law 0 odds 0;cart of 1 at 1;");
    due("above(0, 1) of none and one", y.above(0, 1), -1);
    says("-2: there are none such");
    onlyDays("above(.., 0)", 0, 6, d -> x.above(d, 0));
    onlyDays("above(0, ..)", 0, 6, d -> x.above(0, d));
    due("above(0, 0), no moor", none().above(0, 0), -2);
  }

  private static void rings() {
    TurfHeaps x = of(A);
    on("28");
    says("NONE: more than 2,000 STEPS");
    due("tail(0) of the furthest found", longRound().tail(0), LONG_TAIL);
    due("tail of 2,000 steps in all", FarRounds.of(2000)[0], 1999);
    due("tail of 2,001 steps in all", FarRounds.of(2001)[0], -1);
    says("-2: there is none such, no MOOR");
    onlyDays("tail", 0, 6, x::tail);
    onlyDays("tail", 0, 16, of(FULL)::tail);
    due("tail(0), no moor", none().tail(0), -2);
    due("tail(0) without heaps", of(BARE).tail(0), 0);
    on("29");
    says("NONE, -2 likewise");
    onlyDays("length", 0, 6, x::length);
    due("length(0), no moor", none().length(0), -2);
    due("length(0) without heaps", of(BARE).length(0), 1);
    due("length(0) of the furthest found", longRound().length(0), LONG_LENGTH);
    due("length of 2,000 steps in all", FarRounds.of(2000)[1], 1);
    due("length of 2,001 steps in all", FarRounds.of(2001)[1], -1);
    on("30");
    says("NONE, -2 likewise");
    onlyDays("ring", 0, 6, x::ring);
    due("ring(0), no moor", none().ring(0), -2);
    due("ring(0) without heaps", of(BARE).ring(0), 0);
    due("ring(0) of the furthest found", longRound().ring(0), LONG_RING);
    due("ring of 2,000 steps in all", FarRounds.of(2000)[2], 2000);
    due("ring of 2,001 steps in all", FarRounds.of(2001)[2], -1);
    due("ring(0), most heaps ahead of the ring", heaps(1, 0, 1, 1, 1, 1, 1, 1, 1, 1).ring(0), 4);
  }

  private static void stepsOn() {
    TurfHeaps x = heaps(1, 0, 2, 2); // [2 2] [2 1 1] [3 1], and round again
    on("31");
    says("n (0 .. 500) STEPS on");
    onlyFrom(0, 500, -2, "later(0, .., 0)", n -> x.later(0, n, 0));
    due("later(0, 0, 0)", x.later(0, 0, 0), 2);
    due("later(0, 499, 0)", x.later(0, 499, 0), 2);
    due("later(0, 499, 2)", x.later(0, 499, 2), 1);
    due("later(0, 500, 0)", x.later(0, 500, 0), 3);
    due("later(0, 500, 1)", x.later(0, 500, 1), 1);
    says("NONE: there is no such heap");
    due("later(0, 0, 2)", x.later(0, 0, 2), -1);
    due("later(0, 500, 2)", x.later(0, 500, 2), -1);
    due("later(0, 1, 2147483647)", x.later(0, 1, Integer.MAX_VALUE), -1);
    due("later(0, 500, 0) without heaps", of(BARE).later(0, 500, 0), -1);
    says("-2: there are none such");
    onlyDays("later(.., 0, 0)", 0, 1, d -> x.later(d, 0, 0));
    due("later(0, 0, 0), no moor", none().later(0, 0, 0), -2);
    says("i is below 0");
    due("later(0, 0, -1)", x.later(0, 0, -1), -2);
    due("later(0, 0, -2147483648)", x.later(0, 0, Integer.MIN_VALUE), -2);
    on("32");
    says("(0: it is)");
    due("soon(0) of [1]", heaps(1, 0, 1).soon(0), 0);
    due("soon(0) of [8 .. 1]", heaps(1, 2, 8, 7, 6, 5, 4, 3, 2, 1).soon(0), 0); // by law 2 it never is again
    due("soon(0) of [1 1 1], by [3]", heaps(1, 0, 1, 1, 1).soon(0), 2);
    due("soon(0) of [3] on a ring of two", heaps(1, 3, 3).soon(0), 1);
    due("soon(0) of the furthest found", longRound().soon(0), LONG_TAIL);
    says("NONE: not within TAIL and LENGTH, more than 2,000 STEPS");
    due("soon(0) of [2 2]", x.soon(0), -1);
    due("soon(0) without heaps", of(BARE).soon(0), -1);
    due("soon(0) of [2]", heaps(1, 2, 2).soon(0), -1);
    due("soon of 2,001 steps in all", FarRounds.of(2001)[3], -1);
    due("soon(1), it was on day 0", heaps(1, 2, 2, 1).soon(1), -1);
    says("-2: there is none such, no MOOR");
    onlyDays("soon", 0, 1, x::soon);
    due("soon(0), no moor", none().soon(0), -2);
  }
}
