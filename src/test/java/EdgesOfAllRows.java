import java.util.function.IntUnaryOperator;

/** All rows of so many turfs, and those of slots: term V, promises 33 to 40. */
final class EdgesOfAllRows extends Edges {
  // Of n from 1 to 14 by laws 0 to 3, as a second program counted them: a row of the table for each law.
  private static final int[] ROWS = {1, 2, 3, 5, 7, 11, 15, 22, 30, 42, 56, 77, 101, 135};
  private static final int[][] RINGED = {{1, 2, 1, 3, 3, 1, 4, 6, 4, 1, 5, 10, 10, 5}, {1, 2, 2, 4, 5, 5, 8, 11, 12, 12, 16, 22, 26, 27},
    {1, 1, 1, 1, 1, 1, 1, 1, 1, 1, 1, 1, 1, 1}, {1, 1, 2, 3, 2, 1, 3, 6, 7, 6, 3, 1, 4, 10}};
  private static final int[][] RINGS = {{1, 1, 1, 1, 1, 1, 1, 2, 1, 1, 1, 2, 2, 1}, {1, 2, 2, 3, 4, 4, 5, 6, 7, 7, 8, 10, 11, 12},
    {1, 1, 1, 1, 1, 1, 1, 1, 1, 1, 1, 1, 1, 1}, {1, 1, 1, 2, 1, 1, 1, 2, 3, 2, 1, 1, 1, 3}};
  private static final int[][] GARDENS = {{0, 0, 1, 1, 2, 3, 5, 7, 10, 14, 20, 27, 37, 49}, {0, 0, 1, 1, 2, 4, 6, 8, 12, 17, 24, 33, 44, 58},
    {0, 1, 1, 2, 2, 3, 4, 6, 8, 12, 15, 22, 29, 40}, {0, 1, 1, 2, 4, 6, 9, 13, 18, 26, 36, 50, 67, 91}};
  private static final int[][] LONGEST = {{0, 0, 2, 2, 3, 6, 4, 5, 7, 12, 8, 8, 9, 14}, {0, 0, 1, 1, 1, 2, 2, 2, 3, 6, 6, 6, 6, 8},
    {0, 1, 2, 3, 4, 5, 6, 7, 8, 9, 10, 11, 12, 13}, {0, 1, 1, 1, 2, 4, 2, 2, 3, 5, 6, 9, 6, 6}};

  static void all() {
    termFive();
    numbersOfRows();
    ahead();
    from();
    way();
  }

  private static TurfHeaps none() {
    return new TurfHeaps();
  }

  private static void table(String name, int[] due, IntUnaryOperator call) {
    for (int n = 1; n <= 14; n++) due(name + "(" + n + ")", call.applyAsInt(n), due[n - 1]);
  }

  private static void termFive() {
    on("V");
    says("(n 1 .. 14)");
    TurfHeaps x = of(BARE);
    onlyFrom(1, 14, -2, "rowsOf", x::rowsOf);
    says("(one that STEPS to itself is a ring, and come to by it)");
    for (int law = 0; law < 4; law++) {
      TurfHeaps y = heaps(1, law);
      due("rings(1) by law " + law, y.rings(1), 1);
      due("ringed(1) by law " + law, y.ringed(1), 1);
      due("gardens(1) by law " + law, y.gardens(1), 0);
      slot(y, 0, 0, 1);
      due("ahead of [1] by law " + law, y.ahead(0), 1);
      due("from of [1] by law " + law, y.from(0, 0), 1);
    }
    says("STEPS by LAW");
    TurfHeaps other = heaps(1, 0);
    for (int law : new int[] {0, 2, 1, 3, 0}) {
      put(other, "moor days 1 law " + law + " odds 0;");
      other.moor();
      due("ringed(14) by law " + law, other.ringed(14), RINGED[law][13]);
      due("gardens(14) by law " + law, other.gardens(14), GARDENS[law][13]);
    }
    says("(one that STEPS to itself is a ring, and come to by it)");
    TurfHeaps stays = heaps(1, 1);
    due("rings(2) by law 1, [2] and [1 1]", stays.rings(2), 2);
    due("gardens(2) by law 1", stays.gardens(2), 0);
  }

  private static void numbersOfRows() {
    TurfHeaps[] by = {heaps(1, 0), heaps(1, 1), heaps(1, 2), heaps(1, 3)};
    on("33");
    says("-2: there is no such n, no MOOR");
    onlyFrom(1, 14, -2, "rowsOf", by[0]::rowsOf);
    due("rowsOf(1), no moor", none().rowsOf(1), -2);
    for (TurfHeaps x : by) table("rowsOf", ROWS, x::rowsOf);
    on("34");
    says("-2 likewise");
    onlyFrom(1, 14, -2, "ringed", by[0]::ringed);
    due("ringed(1), no moor", none().ringed(1), -2);
    for (int law = 0; law < 4; law++) table("law " + law + ", ringed", RINGED[law], by[law]::ringed);
    on("35");
    says("-2 likewise");
    onlyFrom(1, 14, -2, "rings", by[0]::rings);
    due("rings(1), no moor", none().rings(1), -2);
    for (int law = 0; law < 4; law++) table("law " + law + ", rings", RINGS[law], by[law]::rings);
    on("36");
    says("-2 likewise");
    onlyFrom(1, 14, -2, "gardens", by[0]::gardens);
    due("gardens(1), no moor", none().gardens(1), -2);
    for (int law = 0; law < 4; law++) table("law " + law + ", gardens", GARDENS[law], by[law]::gardens);
    on("37");
    says("-2 likewise");
    onlyFrom(1, 14, -2, "longest", by[0]::longest);
    due("longest(1), no moor", none().longest(1), -2);
    for (int law = 0; law < 4; law++) table("law " + law + ", longest", LONGEST[law], by[law]::longest);
  }

  private static final long[] FOURTEEN = {1, 1, 1, 1, 1, 1, 1, 1, 1, 1, 1, 1, 1, 1};
  private static final long[] FIFTEEN = {1, 1, 1, 1, 1, 1, 1, 1, 1, 1, 1, 1, 1, 1, 1};
  // Numbers that are no row of at most 14 turfs: too small, too large, too many, none.
  private static final long[][] NO_ROWS = {{0}, {-1}, {15}, {3, 0}, {3, -1, 1}, {0, 3}, {14, 1}, {1, 14}, {7, 8}, FIFTEEN, {},
    {4294967297L}, {Long.MIN_VALUE}, {Long.MAX_VALUE}, {Long.MAX_VALUE, Long.MAX_VALUE, 3}, {5, 5, 5}};

  private static void ahead() {
    on("38");
    TurfHeaps x = of(BARE);
    says("(heaps of 1 .. 14 in any order, at most 14 turfs together, one heap at least)");
    slot(x, 0, 0, 1);
    due("ahead of [1]", x.ahead(0), 1);
    slot(x, 0, 0, 14);
    due("ahead of [14]", x.ahead(0), 1); // fourteen heaps of one
    slot(x, 0, 0, FOURTEEN);
    due("ahead of fourteen heaps of one", x.ahead(0), 0);
    slot(x, 0, 0, 1, 3);
    due("ahead of [1 3]", x.ahead(0), 2); // [4], [2 1 1]
    slot(x, 0, 0, 3, 1);
    due("ahead of [3 1]", x.ahead(0), 2);
    slot(x, 0, 0, 7, 7);
    due("ahead of [7 7]", x.ahead(0), 1); // [8 1 1 1 1 1 1]
    says("-2: there is no such SLOT, no MOOR");
    for (int s = 0; s < 4; s++) slot(x, s, s, 2);
    onlyFrom(0, 3, -2, "ahead", x::ahead);
    TurfHeaps y = none();
    slot(y, 0, 0, 1);
    due("ahead(0), no moor", y.ahead(0), -2);
    due("ahead(1), no moor, it has nothing", y.ahead(1), -2);
    says("numbers are none such (asked last)");
    for (long[] numbers : NO_ROWS) {
      slot(x, 0, 3, numbers);
      due("ahead of " + java.util.Arrays.toString(numbers), x.ahead(0), -2);
    }
    says("-6: it has nothing");
    for (int s = 0; s < 4; s++) due("ahead(" + s + ")", of(BARE).ahead(s), -6);
  }

  private static void from() {
    on("39");
    TurfHeaps x = of(BARE);
    slot(x, 0, 0, 1, 3);
    says("(ROWS compared from the highest heap on: that with the greater one first)");
    due("from(0, 0) of [4] and [2 1 1]", x.from(0, 0), 4);
    slot(x, 1, 0, 2, 3, 1); // [4 2], [3 2 1]
    due("from(1, 0)", x.from(1, 0), 4);
    slot(x, 1, 0, 5, 3, 2); // [6 4], [6 3 1]
    due("from(1, 0)", x.from(1, 0), 6);
    due("from(1, 1)", x.from(1, 1), 4);
    due("from(1, 2)", x.from(1, 2), -1);
    slot(x, 1, 0, 2, 2); // [3 1] alone
    due("from(1, 1)", x.from(1, 1), 1);
    says("NONE: it has none such, there is none");
    due("from(0, 1) of [4]", x.from(0, 1), -1);
    due("from(0, 13)", x.from(0, 13), -1);
    due("from(0, 14)", x.from(0, 14), -1);
    due("from(0, 2147483647)", x.from(0, Integer.MAX_VALUE), -1);
    slot(x, 1, 0, 1, 1, 1, 1);
    due("from(1, 0), there is none", x.from(1, 0), -1);
    for (int n = 3; n <= 13; n++) { // heaps of one, behind each larger number of turfs that was asked about
      slot(x, 1, 0, java.util.Arrays.copyOf(FOURTEEN, n));
      for (int other = n + 1; other <= 14; other++) {
        x.rowsOf(other);
        due("from(1, 0) of " + n + " heaps of one", x.from(1, 0), -1);
      }
    }
    slot(x, 1, 0, 14);
    due("from(1, 13) of fourteen heaps of one", x.from(1, 13), 1);
    due("from(1, 14)", x.from(1, 14), -1);
    says("-2 (i below 0, too), -6 likewise");
    due("from(0, -1)", x.from(0, -1), -2);
    due("from(0, -2147483648)", x.from(0, Integer.MIN_VALUE), -2);
    due("from(3, -1), it has nothing", x.from(3, -1), -2);
    due("from(3, 0)", x.from(3, 0), -6);
    due("from(3, 99)", x.from(3, 99), -6);
    onlyFrom(0, 3, -2, "from(.., 0)", s -> x.from(s, 0));
    for (long[] numbers : NO_ROWS) {
      slot(x, 2, 3, numbers);
      due("from of " + java.util.Arrays.toString(numbers), x.from(2, 0), -2);
    }
    TurfHeaps y = none();
    slot(y, 0, 0, 1);
    due("from(0, 0), no moor", y.from(0, 0), -2);
    due("from(1, 0), no moor, it has nothing", y.from(1, 0), -2);
  }

  private static void way() {
    on("40");
    says("-2, -6 likewise");
    TurfHeaps x = of(BARE);
    slot(x, 0, 0, 1);
    due("way of [1]", x.way(0), 0);
    slot(x, 0, 0, FOURTEEN);
    due("way of fourteen heaps of one", x.way(0), 10);
    onlyFrom(0, 3, -2, "way", x::way);
    for (int s = 1; s < 4; s++) due("way(" + s + ")", x.way(s), -6);
    for (long[] numbers : NO_ROWS) {
      slot(x, 2, 3, numbers);
      due("way of " + java.util.Arrays.toString(numbers), x.way(2), -2);
    }
    TurfHeaps y = none();
    slot(y, 0, 0, 1);
    due("way(0), no moor", y.way(0), -2);
    due("way(1), no moor, it has nothing", y.way(1), -2);
  }
}
