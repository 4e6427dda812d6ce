import java.util.function.IntUnaryOperator;

/** Acts, counts, images and slots: promises 61 to 64 and 67 to 73. */
final class EdgesOfState extends Edges {
  static void all() {
    brings();
    away();
    undo();
    anew();
    rate();
    count();
    image();
    back();
    rowOfSlot();
    write();
    cutToWidth();
    paste();
    nothingLeft();
  }

  private static TurfHeaps none() {
    return new TurfHeaps();
  }

  /** A moor of A with 20 acts: carts of one on the last day. */
  private static TurfHeaps twentyActs() {
    TurfHeaps x = of(A);
    for (int i = 1; i <= 20; i++) due("act " + i, x.brings(1, 6), 3 + i);
    due("acts", x.count(5), 20);
    return x;
  }

  /** What is refused leaves no act behind. */
  private static IntUnaryOperator fresh(java.util.function.ToIntBiFunction<TurfHeaps, Integer> call) {
    return n -> {
      TurfHeaps x = of(A);
      int answer = call.applyAsInt(x, n);
      due("acts behind it", x.count(5), answer < 0 ? 0 : 1);
      return answer;
    };
  }

  private static void brings() {
    on("61");
    says("A CART more of n (1 .. 20)");
    onlyFrom(1, 20, -2, "brings(.., 0)", fresh((x, n) -> x.brings(n, 0)));
    says("in a DAY (the last one, too)");
    onlyDays("brings(1, ..)", 0, 6, fresh((x, d) -> x.brings(1, d)));
    TurfHeaps x = of(A);
    due("brings(1, 6)", x.brings(1, 6), 4);
    row(x, 6, 3, 2, 2, 1);
    due("brings(20, 0)", x.brings(20, 0), 6);
    row(x, 0, 20, 4, 1);
    says("-2: there are none such");
    due("brings(1, 0), no moor", none().brings(1, 0), -2);
    due("brings(0, 7)", x.brings(0, 7), -2);
    due("acts", x.count(5), 2);
    says("-5: there were 20 acts");
    TurfHeaps y = twentyActs();
    due("brings(1, 6)", y.brings(1, 6), -5);
    due("acts", y.count(5), 20);
    due("heaps(6)", y.heaps(6), 23);
    due("brings(21, 6)", y.brings(21, 6), -2);
    due("brings(1, 7)", y.brings(1, 7), -2);
    y.undo();
    due("brings(1, 6), there are 19", y.brings(1, 6), 23);
  }

  private static void away() {
    on("62");
    says("(the last one, too; without heaps it is an act all the same)");
    TurfHeaps x = of(A);
    due("away(6)", x.away(6), 2);
    row(x, 6, 2, 2);
    due("away(6)", x.away(6), 1);
    due("away(6)", x.away(6), 0);
    due("away(6), there is none", x.away(6), 0);
    due("acts", x.count(5), 4);
    due("undo()", x.undo(), 3);
    due("heaps(6)", x.heaps(6), 0);
    due("undo()", x.undo(), 2);
    due("heaps(6)", x.heaps(6), 1);
    due("brings(9, 6), for the act that had none", of(A).heaps(6), 3);
    TurfHeaps bare = of(BARE);
    due("away(0), there is none", bare.away(0), 0);
    due("acts", bare.count(5), 1);
    due("brings(5, 0), and it goes", bare.brings(5, 0), 0);
    says("-2, -5 likewise");
    onlyDays("away", 0, 6, fresh(TurfHeaps::away));
    due("away(0), no moor", none().away(0), -2);
    TurfHeaps y = twentyActs();
    due("away(6)", y.away(6), -5);
    due("away(7)", y.away(7), -2);
    due("away(-1)", y.away(-1), -2);
    due("heaps(6)", y.heaps(6), 23);
    y.undo();
    due("away(6), there are 19", y.away(6), 21);
    due("away(6), there are 20", y.away(6), -5);
  }

  private static void undo() {
    on("63");
    says("-2: there is no MOOR");
    due("undo()", none().undo(), -2);
    says("-5: there is none");
    TurfHeaps x = of(A);
    due("undo()", x.undo(), -5);
    due("acts", x.count(5), 0);
    x.brings(1, 6);
    due("undo()", x.undo(), 0);
    due("undo()", x.undo(), -5);
    row(x, 6, 3, 2, 2);
    says("The latest act is taken back: how many there are");
    TurfHeaps y = twentyActs();
    for (int left = 19; left >= 0; left--) due("undo()", y.undo(), left);
    due("undo()", y.undo(), -5);
    row(y, 6, 3, 2, 2);
  }

  private static void anew() {
    on("64");
    says("All are: how many there were");
    TurfHeaps x = twentyActs();
    due("anew()", x.anew(), 20);
    row(x, 6, 3, 2, 2);
    due("anew(), there are none", x.anew(), 0);
    due("undo()", x.undo(), -5);
    due("brings(1, 6)", x.brings(1, 6), 4);
    says("-2 likewise");
    due("anew()", none().anew(), -2);
  }

  private static void rate() {
    on("67");
    says("A heap told is of n (1 .. 20) from now on: what it was");
    TurfHeaps x = of(A);
    due("rate(0, 20)", x.rate(0, 20), 4);
    due("rate(0, 1)", x.rate(0, 1), 20);
    due("rate(0, 1)", x.rate(0, 1), 1);
    row(x, 0, 1, 1);
    due("length(0) of [1 1]", x.length(0), 2);
    due("rate(0, 2)", x.rate(0, 2), 1);
    due("length(0) of [2 1], nothing else was asked", x.length(0), 1);
    due("rate(0, 1)", x.rate(0, 1), 2);
    says("-2: there are none such");
    onlyFrom(1, 20, -2, "rate(0, ..)", n -> of(A).rate(0, n));
    onlyFrom(0, 1, -2, "rate(.., 1)", h -> of(A).rate(h, 1));
    onlyFrom(0, 7, -2, "rate(.., 1)", h -> of(FULL).rate(h, 1));
    due("rate(0, 1) without heaps", of(BARE).rate(0, 1), -2);
    due("rate(0, 1), no moor", none().rate(0, 1), -2);
    due("rate(0, 0)", x.rate(0, 0), -2);
    due("told(0)", x.told(0), 1);
    says("-5: there are acts that are not taken back");
    x.away(0);
    due("rate(0, 9)", x.rate(0, 9), -5);
    due("rate(0, 21)", x.rate(0, 21), -2);
    due("rate(2, 9)", x.rate(2, 9), -2);
    due("told(0)", x.told(0), 1);
    x.undo();
    due("rate(0, 9) behind undo()", x.rate(0, 9), 1);
    x.away(0);
    x.anew();
    due("rate(0, 8) behind anew()", x.rate(0, 8), 9);
  }

  private static TurfHeaps with(String text, long... numbers) {
    TurfHeaps x = of(text);
    slot(x, 0, 3, numbers);
    return x;
  }

  /** Of what was ahead of a change nothing is left: each answer is that of an object told so at once. */
  private static void nothingLeft() {
    String two = A + "cart of 3 at 1;";
    String high = "moor days 6 law 0 odds 3;heap of 9;heap of 1;cart of 2 at 3;cart of 3 at 1;";
    on("4");
    says("(in place of another)");
    TurfHeaps x = with(FULL, 0, 2, 4);
    Answers.alike(x, () -> with(FULL, 0, 2, 4));
    for (String text : new String[] {two, BARE, "moor days 6 law 2 odds 9;heap of 2;heap of 2;heap of 1;", "moor days 6 law 3 odds 1;heap of 6;", two}) {
      put(x, text);
      x.moor();
      Answers.alike(x, () -> with(text, 0, 2, 4));
    }
    on("67");
    says("A heap told is of n (1 .. 20) from now on: what it was");
    due("rate(0, 9)", x.rate(0, 9), 4);
    Answers.alike(x, () -> with(high, 0, 2, 4));
    x.image(1);
    on("61");
    says("A CART more of n (1 .. 20)");
    due("brings(7, 2)", x.brings(7, 2), 6);
    Answers.alike(x, () -> acted(high));
    on("69");
    says("IMAGE k (0 .. 2) keeps the MOOR, and acts: 0");
    x.image(2);
    on("63");
    says("The latest act is taken back: how many there are");
    due("undo()", x.undo(), 0);
    Answers.alike(x, () -> with(high, 0, 2, 4));
    on("64");
    says("All are: how many there were");
    x.away(0);
    x.away(5);
    x.brings(11, 3);
    due("anew()", x.anew(), 3);
    Answers.alike(x, () -> with(high, 0, 2, 4));
    on("70");
    says("It is as IMAGE k has it: 0");
    x.rate(1, 20);
    x.away(0);
    x.away(5);
    due("back(2)", x.back(2), 0);
    Answers.alike(x, () -> acted(high));
    put(x, FULL);
    x.moor();
    due("back(1)", x.back(1), 0);
    Answers.alike(x, () -> with(high, 0, 2, 4));
  }

  private static TurfHeaps acted(String text) {
    TurfHeaps x = with(text, 0, 2, 4);
    x.brings(7, 2);
    return x;
  }

  private static void count() {
    on("68");
    says("0 days, 1 LAW, 2 odds, 3 heaps told, 4 CARTS told, 5 acts, 6 LINES, 7 bytes of the TAPE, 8 SLOTS that have a row");
    TurfHeaps x = of(FULL.replace("law 0 odds 5", "law 3 odds 10"));
    for (int i = 0; i < 20; i++) x.away(16);
    for (int i = 0; i < 25; i++) x.feed(0, 0, 0, 0, 0);
    for (int s = 0; s < 4; s++) x.row(s, 0, s); // that of none is one, too
    int[] most = {16, 3, 10, 8, 6, 20, 15, 500, 4};
    for (int what = 0; what < 9; what++) due("count(" + what + ") of all there can be", x.count(what), most[what]);
    for (int what = 0; what < 9; what++) due("count(" + what + ") of nothing", none().count(what), 0);
    says("NONE for others");
    for (int what : new int[] {-1, 9, Integer.MIN_VALUE, Integer.MAX_VALUE}) {
      due("count(" + what + ")", x.count(what), -1);
      due("count(" + what + "), no moor", none().count(what), -1);
    }
  }

  private static void image() {
    on("69");
    says("IMAGE k (0 .. 2) keeps the MOOR, and acts: 0");
    TurfHeaps x = of(A);
    for (int k = 0; k < 3; k++) {
      due("image(" + k + ")", x.image(k), 0);
      x.away(6);
    }
    for (int k = 0; k < 3; k++) {
      due("back(" + k + ")", x.back(k), 0);
      due("acts", x.count(5), k);
      due("heaps(6)", x.heaps(6), 3 - k);
    }
    due("image(0) in place of another", x.image(0), 0);
    x.anew();
    due("back(0)", x.back(0), 0);
    due("acts", x.count(5), 2);
    due("image(2) without a moor", none().image(2), 0);
    says("-2: no such k");
    onlyFrom(0, 2, -2, "image", of(A)::image);
    onlyFrom(0, 2, -2, "image", none()::image);
  }

  private static void back() {
    on("70");
    says("It is as IMAGE k has it: 0");
    TurfHeaps x = of(A);
    x.brings(20, 6);
    x.image(1);
    x.anew();
    x.rate(0, 9);
    put(x, BARE);
    x.moor();
    x.row(3, 1, 2);
    due("back(1)", x.back(1), 0);
    due("told(0)", x.told(0), 4);
    row(x, 6, 20, 3, 2, 2);
    due("undo()", x.undo(), 0);
    due("back(1) once more", x.back(1), 0);
    due("acts", x.count(5), 1);
    TurfHeaps y = none();
    y.image(0);
    put(y, A);
    y.moor();
    due("back(0) to no moor", y.back(0), 0);
    due("heaps(0)", y.heaps(0), -2);
    says("-2: no such k");
    onlyFrom(0, 2, -2, "back", of(A)::back);
    due("acts stay", x.count(5), 1);
    says("-6: it has nothing");
    for (int k = 0; k < 3; k++) due("back(" + k + ")", of(A).back(k), -6);
    due("back(0), the image is in 1", x.back(0), -6);
    due("back(2), the image is in 1", x.back(2), -6);
    row(x, 6, 20, 3, 2, 2);
  }

  private static void rowOfSlot() {
    on("71");
    says("A SLOT (0 .. 3) has a row of n numbers of a WIDTH, all 0 (in place of another one): 0");
    TurfHeaps x = of(BARE);
    slot(x, 0, 0, 3, 1);
    due("way of [3 1]", x.way(0), 0);
    due("row(0, 0, 2)", x.row(0, 0, 2), 0);
    due("way of [0 0]", x.way(0), -2);
    x.write(0, 0, 3);
    due("way of [3 0]", x.way(0), -2);
    due("row(0, 0, 60)", x.row(0, 0, 60), 0);
    due("laws of sixty times 0", x.laws(0), 15);
    due("row(0, 0, 0)", x.row(0, 0, 0), 0);
    due("write(0, 0, 1), it has no numbers", x.write(0, 0, 1), -7);
    due("slots with a row", x.count(8), 1);
    says("-2: there is no such SLOT or WIDTH (0 .. 3), or n is above 60");
    onlyFrom(0, 3, -2, "row(.., 0, 1)", s -> x.row(s, 0, 1));
    onlyFrom(0, 3, -2, "row(0, .., 1)", w -> x.row(0, w, 1));
    TurfHeaps y = of(BARE);
    slot(y, 1, 0, 3, 1);
    due("row(1, 0, 61)", y.row(1, 0, 61), -2);
    due("row(1, 0, 2147483647)", y.row(1, 0, Integer.MAX_VALUE), -2);
    due("row(1, 4, 2)", y.row(1, 4, 2), -2);
    due("row(4, 0, -1)", y.row(4, 0, -1), -2);
    due("row(1, 4, -1)", y.row(1, 4, -1), -2);
    due("the slot stays", y.ahead(1), 2);
    says("-3, and the SLOT stays: n is below 0");
    due("row(1, 0, -1)", y.row(1, 0, -1), -3);
    due("row(1, 3, -2147483648)", y.row(1, 3, Integer.MIN_VALUE), -3);
    due("the slot stays", y.ahead(1), 2);
    due("row(2, 0, -1)", y.row(2, 0, -1), -3);
    due("the slot still has nothing", y.ahead(2), -6);
    due("slots with a row", y.count(8), 1);
  }

  private static void write() {
    on("72");
    TurfHeaps x = of(BARE);
    slot(x, 0, 0, 1, 1);
    says("-2: there is no such SLOT");
    onlyFrom(0, 3, -2, "write(.., 0, 1)", s -> x.write(s, 0, 1));
    due("write(4, -1, 1)", x.write(4, -1, 1), -2);
    says("-6: it has nothing");
    for (int s = 1; s < 4; s++) due("write(" + s + ", 0, 1)", x.write(s, 0, 1), -6);
    due("write(1, -1, 1)", x.write(1, -1, 1), -6);
    says("-7: there is no such number");
    onlyFrom(0, 1, -7, "write(0, .., 1)", i -> x.write(0, i, 1));
    slot(x, 1, 3, new long[60]);
    onlyFrom(0, 59, -7, "write(1, .., 1)", i -> x.write(1, i, 1));
    due("write(0, 2, 1) to a row of two", x.write(0, 2, 1), -7);
    due("the row stays", x.from(0, 0), 2); // [2] is ahead of [1 1]
  }

  /** What of v is left shows by from(): fourteen heaps of one are ahead of [14]. */
  private static void cutToWidth() {
    says("Number i of the SLOT's row is v, cut to its WIDTH: 0");
    long[] rounds = {1L << 8, 1L << 16, 1L << 32};
    for (int w = 0; w < 4; w++) {
      TurfHeaps x = of(BARE);
      slot(x, 0, w, 14);
      due("14", x.from(0, 13), 1);
      for (int r = 0; r < 3; r++) {
        for (long v : new long[] {rounds[r] + 14, 14 - rounds[r], 7 * rounds[r] + 14}) {
          slot(x, 0, w, v);
          due(v + " in width " + w, x.from(0, 13), w <= r ? 1 : -2);
        }
      }
      for (long v : new long[] {-1, Long.MIN_VALUE, Long.MAX_VALUE, -(1L << 7), -(1L << 15), -(1L << 31)}) {
        slot(x, 0, w, v);
        due(v + " in width " + w, x.from(0, 13), -2);
      }
    }
    // Numbers have a sign, as Java's have: 127 heaps of one can be asked about in one byte, 128 can't.
    TurfHeaps y = of(BARE);
    slot(y, 0, 0, 0, 127, 1);
    due("127 in one byte", y.laws(0), 0);
    slot(y, 0, 0, 0, 128, 1);
    due("128 in one byte", y.laws(0), -2);
    slot(y, 0, 1, 0, 700, 1);
    due("700 in two bytes", y.laws(0), 0);
  }

  private static void paste() {
    on("73");
    TurfHeaps x = of(BARE);
    slot(x, 0, 0, 1, 2, 3, 4, 0);
    slot(x, 1, 0, 2, 1);
    slot(x, 2, 1, 2, 1);
    says("-2: there is no such SLOT");
    onlyFrom(0, 1, -2, "paste(.., 0, 1, 0, 1)", s -> x.paste(s == 2 ? 4 : s, 0, 1, 0, 0));
    onlyFrom(0, 1, -2, "paste(0, 0, .., 0, 1)", s -> x.paste(0, 0, s == 2 ? 4 : s, 0, 0));
    due("paste(4, 0, 3, 0, 1), one has nothing", x.paste(4, 0, 3, 0, 1), -2);
    due("paste(3, 0, 4, 0, 1), one has nothing", x.paste(3, 0, 4, 0, 1), -2);
    says("-6: one has nothing");
    due("paste(3, 0, 0, 0, 1)", x.paste(3, 0, 0, 0, 1), -6);
    due("paste(0, 0, 3, 0, 1)", x.paste(0, 0, 3, 0, 1), -6);
    due("paste(3, 0, 3, 0, 0)", x.paste(3, 0, 3, 0, 0), -6);
    due("paste(3, -1, 0, -1, -1)", x.paste(3, -1, 0, -1, -1), -6);
    says("-8: they are not of one WIDTH");
    due("paste(0, 0, 2, 0, 1)", x.paste(0, 0, 2, 0, 1), -8);
    due("paste(2, 0, 0, 0, 0)", x.paste(2, 0, 0, 0, 0), -8);
    due("paste(2, 9, 0, -1, -1)", x.paste(2, 9, 0, -1, -1), -8);
    says("-7, and nothing happens: some are beyond their rows, or a place or n is below 0");
    int[][] beyond = {{0, 0, 3}, {4, 0, 2}, {5, 0, 1}, {6, 0, 0}, {0, 1, 2}, {0, 2, 1}, {0, 3, 0}, {-1, 0, 1}, {0, -1, 1}, {0, 0, -1},
      {-1, 0, 0}, {0, -1, 0}, {Integer.MAX_VALUE, 0, 1}, {0, Integer.MAX_VALUE, 1}, {1, 1, Integer.MAX_VALUE}, {Integer.MIN_VALUE, 0, 1},
      {0, Integer.MIN_VALUE, 1}, {0, 0, Integer.MIN_VALUE}, {Integer.MAX_VALUE, Integer.MAX_VALUE, Integer.MAX_VALUE}};
    for (int[] b : beyond) {
      due("paste(0, " + b[0] + ", 1, " + b[1] + ", " + b[2] + ")", x.paste(0, b[0], 1, b[1], b[2]), -7);
      due("[2 1] is there still", x.from(1, 0), 3);
    }
    due("paste of none, at both ends", x.paste(0, 5, 1, 2, 0), 0);
    due("[2 1] is there still", x.from(1, 0), 3);
    due("paste to the last places", x.paste(0, 2, 1, 0, 2), 0);
    due("[4 3] is there", x.from(1, 0), 5); // [5 1 1]
    ontoItself();
  }

  private static void ontoItself() {
    says("are put to another one's (or its own), from one on, as they were: 0");
    TurfHeaps x = of(BARE);
    slot(x, 0, 0, 1, 2, 3, 4, 0);
    due("paste onwards", x.paste(0, 0, 0, 1, 4), 0); // 1 1 2 3 4
    due("[4 3 2 1 1] is there", x.ahead(0), 1);
    due("from(0, 3) of [4 3 2 2]", x.from(0, 3), 2);
    due("paste backwards", x.paste(0, 1, 0, 0, 4), 0); // 1 2 3 4 4
    due("[4 4 3 2 1] is there", x.ahead(0), 1);
    due("from(0, 0) of [5 4 3 2]", x.from(0, 0), 5);
    due("paste where they are", x.paste(0, 0, 0, 0, 5), 0);
    due("from(0, 3) of [5 4 3 2]", x.from(0, 3), 2);
    slot(x, 1, 0, new long[60]);
    slot(x, 2, 0, new long[60]);
    due("laws of sixty times 0", x.laws(2), 15);
    due("write(1, 59, 5)", x.write(1, 59, 5), 0);
    due("paste of sixty", x.paste(1, 0, 2, 0, 60), 0);
    due("laws, the last of sixty is 5", x.laws(2), 0);
    due("paste of sixty-one", x.paste(1, 0, 2, 0, 61), -7);
  }
}
