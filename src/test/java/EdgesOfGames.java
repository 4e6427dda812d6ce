/** Two who take turfs in turn, two carts that come late: terms VIII and IX, promises 54 to 58. */
final class EdgesOfGames extends Edges {
  static void all() {
    termEight();
    wins();
    moves();
    move();
    termNine();
    rests();
    gets();
  }

  private static TurfHeaps none() {
    return new TurfHeaps();
  }

  private static void termEight() {
    on("VIII");
    says("each 1 .. k turfs off one heap");
    TurfHeaps x = heaps(1, 0, 20);
    due("wins(0, 19) of [20]", x.wins(0, 19), 0);
    due("wins(0, 20) of [20]", x.wins(0, 20), 1);
    due("move(0, 20) of [20]", x.move(0, 20), 20020);
    due("move(0, 21) of [20]", x.move(0, 21), 20020);
    due("wins(0, 1) of [20]", x.wins(0, 1), 0);
    due("move(0, 1) of [19]", heaps(1, 0, 19).move(0, 1), 19001);
    due("moves(0, 700) of [2 1]", heaps(1, 0, 2, 1).moves(0, 700), 1);
    says("(without heaps who begins can not)");
    due("wins(0, 1)", of(BARE).wins(0, 1), 0);
    due("wins(0, 700)", of(BARE).wins(0, 700), 0);
    says("MOVE: one behind which the other one can not win");
    due("moves(0, 4) of [7 6 4]", heaps(1, 0, 7, 6, 4).moves(0, 4), 1);
    due("move(0, 4) of [7 6 4]", heaps(1, 0, 7, 6, 4).move(0, 4), 4001);
    due("moves(0, 3) of [5 3]", heaps(1, 0, 5, 3).moves(0, 3), 2);
    due("move(0, 3) of [5 3]", heaps(1, 0, 5, 3).move(0, 3), 5002);
  }

  private static void wins() {
    on("54");
    TurfHeaps x = of(A);
    says("with 1 .. k turfs, k 1 .. 700, else 0");
    onlyFrom(1, 700, -2, "wins(0, ..)", k -> x.wins(0, k));
    due("wins(0, 700) of [3 2 1]", heaps(1, 0, 3, 2, 1).wins(0, 700), 0);
    due("wins(0, 1) of [1]", heaps(1, 0, 1).wins(0, 1), 1);
    due("wins(0, 1) of [2]", heaps(1, 0, 2).wins(0, 1), 0);
    says("-2: there are none such");
    onlyDays("wins(.., 1)", 0, 6, d -> x.wins(d, 1));
    onlyDays("wins(.., 700)", 0, 16, d -> of(FULL).wins(d, 700));
    due("wins(0, 1), no moor", none().wins(0, 1), -2);
  }

  private static void moves() {
    on("55");
    TurfHeaps x = of(A);
    says("(a height and how many turfs off it: heaps of like height count as one)");
    due("moves(0, 2) of [2 2 2]", heaps(1, 0, 2, 2, 2).moves(0, 2), 1);
    due("moves(0, 2) of [2 2]", heaps(1, 0, 2, 2).moves(0, 2), 0);
    due("moves(0, 1) of [3 3 3 1 1]", heaps(1, 0, 3, 3, 3, 1, 1).moves(0, 1), 2);
    due("moves(0, 5) without heaps", of(BARE).moves(0, 5), 0);
    says("-2 likewise");
    onlyFrom(1, 700, -2, "moves(0, ..)", k -> x.moves(0, k));
    onlyDays("moves(.., 1)", 0, 6, d -> x.moves(d, 1));
    due("moves(0, 1), no moor", none().moves(0, 1), -2);
  }

  private static void move() {
    on("56");
    TurfHeaps x = of(A);
    says("NONE: there is none");
    due("move(0, 2) of [2 2]", heaps(1, 0, 2, 2).move(0, 2), -1);
    due("move(0, 19) of [20]", heaps(1, 0, 20).move(0, 19), -1);
    due("move(0, 5) without heaps", of(BARE).move(0, 5), -1);
    says("-2 likewise");
    onlyFrom(1, 700, -2, "move(0, ..)", k -> x.move(0, k));
    onlyDays("move(.., 1)", 0, 6, d -> x.move(d, 1));
    due("move(0, 1), no moor", none().move(0, 1), -2);
  }

  /** What both get by the four pairs of choices: neither comes late, the first, the other one, both. */
  private static void pays(TurfHeaps x, int rests, int... pays) {
    for (int pair = 0; pair < 4; pair++) {
      due("gets, the first, " + pair, x.gets(0, 1, pair & 1, pair >> 1, 0), pays[2 * pair]);
      due("gets, the second, " + pair, x.gets(0, 1, pair & 1, pair >> 1, 1), pays[2 * pair + 1]);
    }
    due("rests(0, 1)", x.rests(0, 1), rests);
  }

  private static void termNine() {
    on("IX");
    says("comes a DAY later than told, or not (beyond the last: never)");
    String two = "cart of 1 at 15;cart of 1 at 0;";
    pays(of("moor days 16 law 2 odds 0;" + two), 1, 5, 4, 4, 4, 5, 3, 4, 3);
    pays(of("moor days 15 law 2 odds 0;" + two), 1, 5, 4, 2, 3, 5, 3, 2, 2);
    pays(of("moor days 14 law 2 odds 0;" + two), 1, 3, 3, 2, 3, 3, 2, 2, 2); // it never comes, whatever is chosen
    says("less 1, if it comes later");
    due("gets, late on the last day", of("moor days 16 law 2 odds 0;" + two).gets(0, 1, 1, 0, 0), 4);
    due("gets, late and never there", of("moor days 14 law 2 odds 0;" + two).gets(0, 1, 1, 0, 0), 2);
    says("the second one for each heap 1, for each turf of the highest 2, likewise");
    TurfHeaps x = of("moor days 1 law 2 odds 0;cart of 1 at 1;cart of 20 at 0;");
    due("gets, the first, of [19 1 1]", x.gets(0, 1, 0, 0, 0), 25);
    due("gets, the second, of [19 1 1]", x.gets(0, 1, 0, 0, 1), 41);
    due("gets, the second, late, of [20 1]", x.gets(0, 1, 0, 1, 1), 41);
    due("gets, the second, of [19 1], the first is late", x.gets(0, 1, 1, 0, 1), 40);
    says("REST: neither GETS more by the other choice alone");
    pays(of("moor days 11 law 3 odds 0;heap of 5;cart of 3 at 5;cart of 3 at 6;"), 0, 11, 13, 10, 16, 12, 14, 13, 15);
    pays(of("moor days 4 law 0 odds 0;heap of 3;cart of 5 at 3;cart of 4 at 0;"), 15, 12, 12, 12, 14, 14, 12, 14, 14);
    pays(of("moor days 2 law 2 odds 0;cart of 3 at 1;cart of 3 at 1;"), 6, 8, 7, 8, 9, 9, 8, 6, 7);
    pays(of("moor days 5 law 3 odds 0;heap of 4;cart of 2 at 3;cart of 3 at 3;"), 9, 10, 14, 8, 12, 10, 10, 11, 14);
  }

  private static void rests() {
    on("57");
    TurfHeaps x = of(FULL);
    says("as bits: 1 neither comes late, 2 the first one does, 4 the other one, 8 both");
    TurfHeaps y = of("moor days 1 law 0 odds 0;heap of 2;heap of 3;cart of 1 at 0;cart of 1 at 1;");
    due("rests(0, 1)", y.rests(0, 1), 1 + 2);
    due("rests(1, 0)", y.rests(1, 0), 1);
    TurfHeaps z = of("moor days 3 law 3 odds 0;heap of 1;cart of 1 at 2;cart of 5 at 2;");
    due("rests(0, 1)", z.rests(0, 1), 8);
    TurfHeaps w = of("moor days 4 law 0 odds 0;cart of 3 at 4;cart of 5 at 2;");
    due("rests(0, 1)", w.rests(0, 1), 4);
    says("-2: there are none such, one twice");
    onlyFrom(0, 4, -2, "rests(.., 5)", c -> x.rests(c == 5 ? 6 : c, 5));
    onlyFrom(1, 5, -2, "rests(0, ..)", c -> x.rests(0, c == 0 ? -1 : c));
    for (int c = 0; c < 6; c++) due("rests(" + c + ", " + c + ")", x.rests(c, c), -2);
    due("rests(0, 1) of one cart", of(A).rests(0, 1), -2);
    due("rests(1, 0) of one cart", of(A).rests(1, 0), -2);
    due("rests(0, 1) without carts", of(BARE).rests(0, 1), -2);
    due("rests(0, 1), no moor", none().rests(0, 1), -2);
    due("rests(6, 6)", x.rests(6, 6), -2);
  }

  private static void gets() {
    on("58");
    TurfHeaps x = of(FULL);
    says("by the choices (1 it comes late, 0 not; below 0, too)");
    TurfHeaps y = of("moor days 1 law 2 odds 0;cart of 1 at 0;cart of 1 at 0;");
    y.away(1);
    y.away(1);
    pays(y, 1, 0, 0, -1, 0, 0, -1, -1, -1);
    says("-1,000: there are none such, one twice");
    onlyFrom(0, 4, -1000, "gets(.., 5, 0, 0, 0)", c -> x.gets(c == 5 ? 6 : c, 5, 0, 0, 0));
    onlyFrom(1, 5, -1000, "gets(0, .., 0, 0, 0)", c -> x.gets(0, c == 0 ? -1 : c, 0, 0, 0));
    onlyFrom(0, 1, -1000, "gets(0, 1, .., 0, 0)", c -> x.gets(0, 1, c, 0, 0));
    onlyFrom(0, 1, -1000, "gets(0, 1, 0, .., 0)", c -> x.gets(0, 1, 0, c, 0));
    onlyFrom(0, 1, -1000, "gets(0, 1, 0, 0, ..)", c -> x.gets(0, 1, 0, 0, c));
    for (int c = 0; c < 6; c++) due("gets(" + c + ", " + c + ", 0, 0, 0)", x.gets(c, c, 0, 0, 0), -1000);
    due("gets of one cart", of(A).gets(0, 1, 0, 0, 0), -1000);
    due("gets without carts", of(BARE).gets(0, 1, 0, 0, 0), -1000);
    due("gets, no moor", none().gets(0, 1, 0, 0, 0), -1000);
  }
}
