/** Carts more or fewer, other laws, shares: term VII, promises 41 to 43 and 50 to 53. */
final class EdgesOfCarts extends Edges {
  private static final String SIX = "cart of 1 at 0;cart of 2 at 0;cart of 3 at 0;cart of 4 at 1;cart of 5 at 1;cart of 6 at 2;";

  static void all() {
    termSeven();
    bring();
    latest();
    spare();
    otherLaws();
    worth();
    share();
  }

  private static TurfHeaps none() {
    return new TurfHeaps();
  }

  /** By law 2 heaps of one stay: 29 of them each day, and 20 acts are done. */
  private static TurfHeaps twentyNine() {
    TurfHeaps x = of("moor days 16 law 2 odds 0;" + "heap of 1;".repeat(3) + "cart of 1 at 0;".repeat(6));
    for (int i = 0; i < 20; i++) x.brings(1, 0);
    due("heaps(16)", x.heaps(16), 29);
    return x;
  }

  private static void fraction(TurfHeaps x, int cart, int above, int below) {
    due("share(" + cart + ", 0)", x.share(cart, 0), above);
    due("share(" + cart + ", 1)", x.share(cart, 1), below);
  }

  private static void termSeven() {
    on("VII");
    says("A set of CARTS told alone comes (those of acts as now)");
    TurfHeaps x = of("moor days 1 law 2 odds 0;cart of 1 at 0;cart of 1 at 1;cart of 1 at 2;");
    int[] worths = {0, 1, 1, 2, 0, 1, 1, 2};
    for (int set = 0; set < 8; set++) due("worth(" + set + ")", x.worth(set), worths[set]);
    x.brings(1, 0);
    x.brings(1, 1);
    for (int set = 0; set < 8; set++) due("worth(" + set + ") with two carts of acts", x.worth(set), worths[set] + 2);
    x.away(1);
    for (int set = 0; set < 8; set++) due("worth(" + set + ") and one heap away", x.worth(set), worths[set] + 1);
    says("each has what the set is worth more by it (below 0, too)");
    fraction(x, 0, 1, 1);
    fraction(x, 2, 0, 1);
    says("each order is as likely: the mean");
    TurfHeaps y = of("moor days 4 law 0 odds 0;" + SIX);
    int[][] shares = {{4, 15}, {31, 60}, {43, 60}, {49, 30}, {49, 30}, {37, 30}};
    for (int c = 0; c < 6; c++) fraction(y, c, shares[c][0], shares[c][1]);
    due("worth(63)", y.worth(63), 6);
  }

  private static void bring() {
    on("41");
    TurfHeaps x = of(A);
    TurfHeaps full = twentyNine();
    says("the least turfs (1 .. 20) of a CART more");
    due("bring(0, 30), one turf does", full.bring(0, 30), 1);
    due("bring(15, 30), one turf does", full.bring(15, 30), 1);
    due("bring(0, 5), twenty do", of("moor days 14 law 3 odds 0;heap of 1;").bring(0, 5), 20);
    due("bring(0, 5), twenty-one would", of("moor days 10 law 3 odds 0;").bring(0, 5), -1);
    says("(with other CARTS of it)");
    TurfHeaps y = of("moor days 1 law 2 odds 0;");
    due("bring(0, 1)", y.bring(0, 1), 1);
    y.away(0);
    due("bring(0, 1), the highest goes", y.bring(0, 1), -1);
    y.brings(20, 0);
    due("bring(0, 1), another one goes", y.bring(0, 1), 1);
    says("in a DAY (ahead of the last)");
    onlyDays("bring(.., 0)", 0, 5, d -> x.bring(d, 0));
    onlyDays("bring(.., 0)", 0, 15, d -> full.bring(d, 0));
    onlyDays("bring(.., 0) of one day", 0, 0, d -> of("moor days 1 law 0 odds 0;").bring(d, 0));
    says("n (0 .. 30) heaps or more");
    onlyFrom(0, 30, -2, "bring(0, ..)", n -> x.bring(0, n));
    says("0: there are");
    due("bring(0, 0)", x.bring(0, 0), 0);
    due("bring(0, 0) of none", of(BARE).bring(0, 0), 0);
    due("bring(5, 3)", x.bring(5, 3), 0);
    due("bring(5, 4)", x.bring(5, 4), 2);
    due("bring(0, 29)", full.bring(0, 29), 0);
    says("NONE: by none");
    due("bring(5, 5)", x.bring(5, 5), -1);
    due("bring(5, 30)", x.bring(5, 30), -1);
    says("-2: there are none such");
    due("bring(0, 0), no moor", none().bring(0, 0), -2);
    due("bring(6, 31)", x.bring(6, 31), -2);
    due("acts", full.count(5), 20);
    due("heaps(16), nothing was brought", full.heaps(16), 29);
  }

  private static void latest() {
    on("42");
    TurfHeaps x = of("moor days 1 law 0 odds 0;");
    TurfHeaps full = twentyNine();
    says("The latest DAY (ahead of the last)");
    due("latest(1), on the last day it would do, too", x.latest(1), 0);
    due("latest(2), [19 1]", x.latest(2), 0);
    due("latest(30)", full.latest(30), 15);
    says("if it is not so without");
    due("latest(29)", full.latest(29), -1);
    due("latest(0)", x.latest(0), -1);
    says("NONE: in none, or it is so");
    due("latest(3)", x.latest(3), -1);
    due("latest(3) of A", of(A).latest(3), -1);
    due("latest(4) of A", of(A).latest(4), 5);
    due("latest(5) of A", of(A).latest(5), 2);
    due("latest(30) of A", of(A).latest(30), -1);
    says("-2: there is no such n, no MOOR");
    onlyFrom(0, 30, -2, "latest", x::latest);
    onlyFrom(0, 30, -2, "latest", full::latest);
    due("latest(0), no moor", none().latest(0), -2);
  }

  private static void spare() {
    on("43");
    says("The CART told without which most heaps are there in the last DAY, if more than now, the first of several");
    due("spare(), each is worth as much", of("moor days 1 law 0 odds 0;cart of 1 at 0;cart of 1 at 0;").spare(), -1);
    due("spare(), one never comes", of("moor days 1 law 0 odds 0;cart of 1 at 15;").spare(), -1);
    says("NONE: none");
    due("spare() without carts", of(BARE).spare(), -1);
    due("spare() of one cart", of(A).spare(), -1);
    due("spare() of six carts", of(FULL).spare(), -1);
    says("-2: there is no MOOR");
    due("spare(), no moor", none().spare(), -2);
  }

  private static void otherLaws() {
    on("50");
    says("by a LAW in place of the one told");
    TurfHeaps x = of(A);
    int[] by = {3, 3, 7, 3};
    for (int law = 0; law < 4; law++) due("by(" + law + ")", x.by(law), by[law]);
    due("the law told stays", x.count(1), 0);
    says("-2: there is none such (0 .. 3), no MOOR");
    onlyFrom(0, 3, -2, "by", x::by);
    due("by(0), no moor", none().by(0), -2);
    on("51");
    says("the least of several");
    due("law() of 1 2 2 1", heaps(1, 0, 1, 1).law(), 1);
    due("law() of 3 3 3 1", heaps(1, 3, 2, 2).law(), 0);
    due("law() of 3 3 3 3", heaps(1, 3, 3, 3).law(), 0);
    due("law() of 2 2 3 1", heaps(1, 3, 1, 2).law(), 2);
    due("law() without heaps", of(BARE).law(), 0);
    says("-2: there is no MOOR");
    due("law(), no moor", none().law(), -2);
  }

  private static void worth() {
    on("52");
    says("-2: there is no such set, no MOOR");
    TurfHeaps x = of(FULL);
    onlyFrom(0, 63, -2, "worth of six", x::worth);
    onlyFrom(0, 1, -2, "worth of one", of(A)::worth);
    onlyFrom(0, 0, -2, "worth of none", of(BARE)::worth);
    due("worth(0), no moor", none().worth(0), -2);
    due("worth(63) is as now", x.worth(63), x.heaps(16));
  }

  private static void share() {
    on("53");
    says("above (what 0; below 0, too), below (1)");
    TurfHeaps x = of("moor days 3 law 1 odds 0;heap of 3;cart of 1 at 0;cart of 2 at 1;cart of 9 at 2;");
    int[][] shares = {{5, 6}, {5, 6}, {4, 3}};
    for (int c = 0; c < 3; c++) fraction(x, c, shares[c][0], shares[c][1]);
    x.brings(1, 3);
    for (int c = 0; c < 3; c++) fraction(x, c, shares[c][0], shares[c][1]);
    TurfHeaps six = of("moor days 1 law 0 odds 0;" + "cart of 1 at 0;".repeat(6));
    for (int c = 0; c < 6; c++) fraction(six, c, 1, 6);
    six.brings(1, 0);
    for (int c = 0; c < 6; c++) fraction(six, c, 0, 1);
    says("-1,000: there are none such");
    onlyFrom(0, 5, -1000, "share(.., 0)", c -> six.share(c, 0));
    onlyFrom(0, 5, -1000, "share(.., 1)", c -> six.share(c, 1));
    onlyFrom(0, 1, -1000, "share(0, ..)", what -> six.share(0, what));
    onlyFrom(0, 0, -1000, "share(.., 0) of one cart", c -> of(A).share(c, 0));
    due("share(0, 0) without carts", of(BARE).share(0, 0), -1000);
    due("share(0, 0), no moor", none().share(0, 0), -1000);
  }
}
