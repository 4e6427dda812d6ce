/** Wet days by chance, and summers drawn: term X, promises 59, 60, 65 and 66. */
final class EdgesOfChance extends Edges {
  // One heap of two: two heaps a day later, unless it is wet; the odds are put in.
  private static final String TWO = "moor days 1 law 2 odds ?;heap of 2;";

  static void all() {
    termTen();
    draws();
    chance();
    mean();
    drawn();
    luck();
  }

  private static TurfHeaps none() {
    return new TurfHeaps();
  }

  private static TurfHeaps two(int odds) {
    return of(TWO.replace("?", "" + odds));
  }

  private static void chance(TurfHeaps x, int day, int n, long above, long below) {
    due("chance(" + day + ", " + n + ", 0)", x.chance(day, n, 0), above);
    due("chance(" + day + ", " + n + ", 1)", x.chance(day, n, 1), below);
  }

  private static void mean(TurfHeaps x, int day, long above, long below) {
    due("mean(" + day + ", 0)", x.mean(day, 0), above);
    due("mean(" + day + ", 1)", x.mean(day, 1), below);
  }

  private static void termTen() {
    on("X");
    says("WET: from each DAY ahead of the last with odds in ten, by itself (else none is)");
    chance(two(0), 0, 2, 1, 1);
    chance(two(1), 0, 2, 9, 10);
    chance(two(9), 0, 2, 1, 10);
    chance(two(10), 0, 2, 0, 1);
    chance(of("moor days 2 law 2 odds 5;heap of 2;"), 1, 2, 3, 4);
    due("heaps(1), none is wet", two(10).heaps(1), 2);
    due("by(2), none is wet", two(10).by(2), 2);
    says("FRACTIONS are told in lowest terms (0 / 1)");
    chance(two(5), 0, 2, 1, 2);
    chance(two(5), 0, 3, 0, 1);
    chance(two(5), 0, 0, 1, 1);
    mean(two(5), 0, 3, 2);
    mean(of(BARE), 1, 0, 1);
    mean(two(10), 0, 1, 1);
  }

  private static void draws() {
    says("modulo 2,147,483,648 (at first it is the seed)");
    // Draws of seed 0 are 0 8 8 7 8 7 5 1 2 0 1 2 9 8 7 5, of seed 2,000,000,000 4 3 1 7 6 2 7 7 5 4 7 0 4 8 1 3.
    int[] odds = {0, 1, 5, 9, 10};
    int[] first = {0, 513, 3969, 61439, 65535};
    int[] last = {0, 2048, 55847, 65535, 65535};
    for (int i = 0; i < 5; i++) {
      TurfHeaps x = of("moor days 16 law 0 odds " + odds[i] + ";");
      due("drawn(0, 0) with odds " + odds[i], x.drawn(0, 0), first[i]);
      due("drawn(2000000000, 0) with odds " + odds[i], x.drawn(2000000000, 0), last[i]);
    }
    says("a draw: x / 65536, cut, modulo 10");
    due("drawn(0, 0), 12345 / 65536 is 0", two(1).drawn(0, 0), 1); // the first x is 12345
    due("drawn(1, 0), 16838 modulo 10 is 8", two(8).drawn(1, 0), 0);
    due("drawn(1, 0), 16838 modulo 10 is 8", two(9).drawn(1, 0), 1);
    says("DAY by DAY ahead of the last a draw: below odds it is WET");
    due("drawn(0, 0), a draw of 0", two(0).drawn(0, 0), 0);
    due("drawn(0, 0) of one day, all wet", two(10).drawn(0, 0), 1);
    due("drawn(0, 0) of sixteen days, all wet", of("moor days 16 law 0 odds 10;").drawn(0, 0), 65535);
    due("drawn(0, 0), a draw of 9 on day 12", of("moor days 16 law 0 odds 9;").drawn(0, 0) >> 12 & 1, 0);
  }

  private static void chance() {
    on("59");
    TurfHeaps x = of(FULL);
    says("in DAYS 0 to one (0 .. 7, ahead of the last)");
    onlyDays("chance(.., 0, 0) of 16 days", 0, 7, d -> (int) x.chance(d, 0, 0));
    onlyDays("chance(.., 0, 0) of 9 days", 0, 7, d -> (int) of("moor days 9 law 0 odds 5;").chance(d, 0, 0));
    onlyDays("chance(.., 0, 0) of 8 days", 0, 7, d -> (int) of("moor days 8 law 0 odds 5;").chance(d, 0, 0));
    onlyDays("chance(.., 0, 0) of 7 days", 0, 6, d -> (int) of("moor days 7 law 0 odds 5;").chance(d, 0, 0));
    onlyDays("chance(.., 0, 0) of one day", 0, 0, d -> (int) two(5).chance(d, 0, 0));
    says("n (0 .. 700) heaps or more in the DAY behind it");
    onlyFrom(0, 700, -2, "chance(0, .., 0)", n -> (int) x.chance(0, n, 0));
    chance(x, 7, 0, 1, 1);
    chance(x, 7, 11, 1, 1);
    chance(x, 7, 12, 237, 256);
    chance(x, 7, 17, 1, 256);
    chance(x, 7, 18, 0, 1);
    chance(x, 7, 700, 0, 1);
    chance(of(FULL.replace("odds 5", "odds 3")), 7, 17, 5764801, 100000000);
    chance(of(FULL.replace("odds 5", "odds 3")), 7, 12, 99513757, 100000000);
    says("-2: there are none such");
    onlyFrom(0, 1, -2, "chance(0, 0, ..)", what -> (int) x.chance(0, 0, what));
    due("chance(0, 0, 0), no moor", none().chance(0, 0, 0), -2);
    due("chance(8, 701, 2)", x.chance(8, 701, 2), -2);
  }

  private static void mean() {
    on("60");
    TurfHeaps x = of(FULL);
    says("-2: there are none such");
    onlyDays("mean(.., 0) of 16 days", 0, 7, d -> (int) x.mean(d, 0));
    onlyDays("mean(.., 1) of 8 days", 0, 7, d -> (int) of("moor days 8 law 0 odds 5;").mean(d, 1));
    onlyDays("mean(.., 1) of 7 days", 0, 6, d -> (int) of("moor days 7 law 0 odds 5;").mean(d, 1));
    onlyFrom(0, 1, -2, "mean(0, ..)", what -> (int) x.mean(0, what));
    due("mean(0, 0), no moor", none().mean(0, 0), -2);
    mean(x, 7, 3377, 256);
    mean(of(FULL.replace("odds 5", "odds 3")), 7, 1463084561L, 100000000);
  }

  private static void drawn() {
    on("65");
    TurfHeaps x = of(FULL);
    says("from a seed (0 .. 2,000,000,000)");
    onlyFrom(0, 2000000000, -2, "drawn(.., 0)", s -> x.drawn(s, 0));
    onlyFrom(0, 2000000000, -2, "drawn(.., 1)", s -> x.drawn(s, 1));
    due("drawn(0, 1)", x.drawn(0, 1), 19);
    due("drawn(2000000000, 1)", x.drawn(2000000000, 1), 18);
    says("-2: there are none such, no MOOR");
    onlyFrom(0, 1, -2, "drawn(0, ..)", what -> x.drawn(0, what));
    due("drawn(0, 0), no moor", none().drawn(0, 0), -2);
    due("drawn(0, 1) without heaps", of(BARE).drawn(0, 1), 0);
  }

  private static void luck() {
    on("66");
    // First draws of seeds 0 and on: 0 8 8 7 7 5 6 4 4 2 3 1 1 0 0 8 9 7 7 6: eleven are 5 or more.
    TurfHeaps x = two(5);
    says("Of n (1 .. 20) such from seeds, the seed and 1, ..");
    onlyFrom(1, 20, -2, "luck(0, .., 0)", n -> x.luck(0, n, 0));
    due("luck(0, 1, 2)", x.luck(0, 1, 2), 0);
    due("luck(1, 1, 2)", x.luck(1, 1, 2), 1);
    due("luck(0, 2, 2)", x.luck(0, 2, 2), 1);
    due("luck(0, 20, 2)", x.luck(0, 20, 2), 11);
    due("luck(1999999981, 20, 2)", x.luck(1999999981, 20, 2), 10);
    due("luck(2000000000, 20, 2), seeds go on", x.luck(2000000000, 20, 2), 7);
    says("there are k (0 .. 700) heaps or more in the last DAY");
    onlyFrom(0, 700, -2, "luck(0, 1, ..)", k -> x.luck(0, 1, k));
    due("luck(0, 20, 0)", x.luck(0, 20, 0), 20);
    due("luck(0, 20, 1)", x.luck(0, 20, 1), 20);
    due("luck(0, 20, 3)", x.luck(0, 20, 3), 0);
    due("luck(0, 20, 700)", x.luck(0, 20, 700), 0);
    due("luck(0, 20, 0) without heaps", of(BARE).luck(0, 20, 0), 20);
    due("luck(0, 20, 1) without heaps", of(BARE).luck(0, 20, 1), 0);
    says("-2: there are none such");
    onlyFrom(0, 2000000000, -2, "luck(.., 1, 0)", s -> x.luck(s, 1, 0));
    due("luck(0, 1, 0), no moor", none().luck(0, 1, 0), -2);
  }
}
