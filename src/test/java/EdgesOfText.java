/** The tape, the text on it, and what is told: term I, promises 1 to 7. */
final class EdgesOfText extends Edges {
  private static final String M = "moor days 1 law 0 odds 0;"; // 25 bytes

  static void all() {
    linesOfAMoor();
    tokens();
    faults();
    slotsOfTerms();
    newObject();
    feed();
    end();
    moor();
    fault();
    told();
    cart();
  }

  /** The fault that a text has, and that all stays; 0, NONE: it has none. */
  private static void text(String text, int fault, int place) {
    TurfHeaps x = new TurfHeaps();
    put(x, text);
    int answer = x.moor();
    due("moor() of '" + text + "' is -4", answer == -4 ? 1 : 0, fault == 0 ? 0 : 1);
    due("fault(0) of '" + text + "'", x.fault(0), fault);
    due("fault(1) of '" + text + "'", x.fault(1), place);
    due("bytes left of '" + text + "'", x.count(7), fault == 0 ? 0 : text.length());
  }

  private static void fine(String text) {
    text(text, 0, -1);
  }

  private static void linesOfAMoor() {
    on("I");
    says("moor is the first LINE and no other");
    fine(M);
    text(M + M, 1, 25);
    text(M + "heap of 1;" + M, 1, 35);
    text("heap of 1;" + M, 1, 0);
    text("cart of 1 at 0;", 1, 0);
    says("days 1 .. 16");
    text("moor days 0 law 0 odds 0;", 2, 10);
    fine("moor days 1 law 0 odds 0;");
    fine("moor days 16 law 0 odds 0;");
    text("moor days 17 law 0 odds 0;", 2, 10);
    says("law 0 .. 3");
    fine("moor days 1 law 3 odds 0;");
    text("moor days 1 law 4 odds 0;", 2, 16);
    says("odds 0 .. 10");
    fine("moor days 1 law 0 odds 10;");
    text("moor days 1 law 0 odds 11;", 2, 23);
    says("heap: 1 .. 20");
    text(M + "heap of 0;", 2, 33);
    fine(M + "heap of 1;");
    fine(M + "heap of 20;");
    text(M + "heap of 21;", 2, 33);
    says("cart: 1 .. 20, at 0 .. 15");
    text(M + "cart of 0 at 1;", 2, 33);
    fine(M + "cart of 1 at 1;");
    fine(M + "cart of 20 at 1;");
    text(M + "cart of 21 at 1;", 2, 33);
    fine(M + "cart of 1 at 0;");
    fine(M + "cart of 1 at 15;");
    text(M + "cart of 1 at 16;", 2, 38);
    says("Heaps told 0 .. 7, CARTS 0 .. 5 are numbered as they stand");
    TurfHeaps x = of(FULL);
    for (int h = 0; h < 8; h++) due("told(" + h + ")", x.told(h), 20 - h);
    for (int c = 0; c < 6; c++) due("cart(" + c + ", 0)", x.cart(c, 0), c + 1);
    due("told(8)", x.told(8), -2);
    due("cart(6, 0)", x.cart(6, 0), -2);
    says("DAYS 0 .. days");
    onlyDays("heaps", 0, 1, of(M)::heaps);
    onlyDays("heaps", 0, 6, of(A)::heaps);
    onlyDays("heaps", 0, 16, of(FULL)::heaps);
  }

  private static void tokens() {
    says("TOKENS, blanks (32, 10) aside, the longest");
    fine("\n moor\n\ndays1law0odds0 ;\n");
    fine("moor days 1 law 0 odds 0 ; heap of20;cart of 1at 1\n;");
    for (int b : new int[] {0, 9, 11, 13, 31, 33, 128 + 32, 128 + 10}) text("moor" + (char) b + "days 1 law 0 odds 0;", 1, 4);
    text("moordays 1 law 0 odds 0;", 1, 0);
    text("mo or days 1 law 0 odds 0;", 1, 0);
    text("moor days 1 6 law 0 odds 0;", 1, 12);
    text("moor days 1\n6 law 0 odds 0;", 1, 12);
    fine("moor days 16law 0 odds 0;");
    fine("moor days 00000000000000000000000016 law 000 odds 0010;");
    says("words (a .. z), numbers (digits), the sign ;");
    for (char b : new char[] {'a' - 1, 'z' + 1, 'A', 'Z', '/', ':', '<', '-', 'a' + 128, 'z' + 128, '0' + 128, ';' + 128, 255}) {
      text("moor" + b, 1, 4);
      text("moor days 1" + b, 1, 11);
      text(M + b, 1, 25);
    }
    fine(M + "heap of 10;heap of 9;"); // digits 0 and 9
    text("moora days 1 law 0 odds 0;", 1, 0);
    text("moorz days 1 law 0 odds 0;", 1, 0);
    for (char b : new char[] {'?', ',', '<', ':', ';' + 128}) text("moor days 1 law 0 odds 0" + b, 1, 24);
    due("tokens of one byte are told apart", of("moor days 9law0odds9;").count(2), 9);
  }

  private static void faults() {
    says("FAULTS, the first by its place (a TOKEN's first byte; the end's)");
    text("moor days 17 law 4 odds 11;", 2, 10);
    text("moor days 1 law 4 odd 11", 2, 16);
    text("moor day 17", 1, 5);
    text("moor days 000017", 2, 10);
    text("moor dayss", 1, 5);
    text("m", 1, 0);
    lettersOfWords();
    cutOff();
    text("moor", 1, 4);
    text("moor \n ", 1, 7);
    text(M + "heap of 1", 1, 34);
    text(M + "heap of 1  ", 1, 36);
    text(M + "heap of 99", 2, 33);
    says("of one place the least");
    text("moor 99", 1, 5);
    text("99", 1, 0);
    text(M + "99;", 1, 25);
    text(M + "heap of 1 99", 1, 35);
    says("1 a TOKEN that is none, or can't stand there (moor behind the first LINE, another word ahead of it)");
    text("?", 1, 0);
    text(M + "?", 1, 25);
    text(M + "moor", 1, 25);
    text("heap", 1, 0);
    text("days", 1, 0);
    text(";", 1, 0);
    text(M + ";", 1, 25);
    text(M + "of", 1, 25);
    text(M + "heap of;", 1, 32);
    text(M + "heap of heap", 1, 33);
    text(M + "cart of 1;", 1, 34);
    text(M + "heap of 1 at", 1, 35);
    text("moor days 1 law 0 odds 0 heap", 1, 25);
    says("2 a number out of its bounds");
    text("moor days 4294967297 law 0 odds 0;", 2, 10); // 1, if it went round at 32 bits
    text("moor days 18446744073709551617 law 0 odds 0;", 2, 10); // 1 at 64 bits
    text("moor days 1 law 65536 odds 0;", 2, 16);
    text("moor days 1 law 256 odds 0;", 2, 16);
    text("moor days " + "9".repeat(400), 2, 10);
    text(M + "heap of 1001;", 2, 33);
    says("3 a 9th heap, 7th cart, at its word");
    String heaps = M + "heap of 1;".repeat(8);
    String carts = M + "cart of 1 at 1;".repeat(6);
    fine(heaps);
    text(heaps + "heap of 1;", 3, 105);
    text(heaps + " heap of 99;", 3, 106);
    text(heaps + "heap", 3, 105);
    text(heaps + "heaps", 1, 105);
    fine(heaps + "cart of 1 at 1;");
    fine(carts);
    text(carts + "cart of 1 at 1;", 3, 115);
    text(carts + "cart?", 3, 115);
    fine(carts + "heap of 1;");
    fine(heaps + "cart of 1 at 1;".repeat(6));
    text(heaps + "cart of 1 at 1;".repeat(6) + "cart", 3, 195);
  }

  /** Each word with its first, or its last letter otherwise, is another one. */
  private static void lettersOfWords() {
    String line = M + "heap of 1;cart of 1 at 1;";
    int[][] words = {{0, 4}, {5, 4}, {12, 3}, {18, 4}, {25, 4}, {30, 2}, {35, 4}, {40, 2}, {45, 2}};
    for (int[] w : words) {
      for (int at : new int[] {w[0], w[0] + w[1] - 1}) text(line.substring(0, at) + "x" + line.substring(at + 1), 1, w[0]);
    }
    fine(line);
  }

  /** What end() cut off is no part of a token, though it was fed. */
  private static void cutOff() {
    String[] texts = {"moor days 17", "moor dayss", M + "heap of 12;", M + "heap of; ", "moor  ", "moor;"};
    int[] cuts = {11, 9, 34, 32, 4, 4};
    for (int i = 0; i < texts.length; i++) {
      TurfHeaps x = new TurfHeaps();
      put(x, texts[i]);
      x.end(cuts[i]);
      due("moor() of '" + texts[i] + "', cut", x.moor(), -4);
      due("fault(0) of '" + texts[i] + "', cut", x.fault(0), 1);
      due("fault(1) of '" + texts[i] + "', cut", x.fault(1), cuts[i]);
    }
  }

  private static void slotsOfTerms() {
    says("SLOTS 0 .. 3 have rows of numbers of 1, 2, 4 or 8 bytes (WIDTH 0 .. 3), at most 60, or nothing");
    TurfHeaps x = new TurfHeaps();
    for (int s = 0; s < 4; s++) due("write to nothing", x.write(s, 0, 0), -6);
    for (int s = 0; s < 4; s++) due("row(" + s + ", " + s + ", 60)", x.row(s, s, 60), 0);
    for (int s = 0; s < 4; s++) due("write(" + s + ", 59, 1)", x.write(s, 59, 1), 0);
    onlyFrom(0, 3, -2, "row, slot", s -> x.row(s, 0, 1));
    onlyFrom(0, 3, -2, "row, width", w -> x.row(0, w, 1));
    due("row(0, 0, 61)", x.row(0, 0, 61), -2);
    says("-2 (-1,000) is asked ahead of -5, -6");
    TurfHeaps y = of(A);
    due("from(0, -1), the slot has nothing", y.from(0, -1), -2);
    due("heights(0, 2), the slot has nothing", y.heights(0, 2), -2);
    due("laws(0), no moor, nothing", new TurfHeaps().laws(0), -2);
    due("ahead(0), no moor, nothing", new TurfHeaps().ahead(0), -2);
    due("paste to no slot, of nothing", y.paste(0, 0, 4, 0, 0), -2);
    for (int i = 0; i < 20; i++) y.away(0);
    due("brings(0, 0), 20 acts", y.brings(0, 0), -2);
    due("away(7), 20 acts", y.away(7), -2);
    due("rate(2, 1), acts", y.rate(2, 1), -2);
    due("rate(0, 21), acts", y.rate(0, 21), -2);
    due("undo(), no moor", new TurfHeaps().undo(), -2);
  }

  private static void newObject() {
    on("1");
    says("No MOOR");
    TurfHeaps x = new TurfHeaps();
    for (int what = 0; what <= 8; what++) due("count(" + what + ")", x.count(what), 0);
    due("heaps(0)", x.heaps(0), -2);
    due("most()", x.most(), -2);
    due("undo()", x.undo(), -2);
    due("told(0)", x.told(0), -2);
    due("cart(0, 0)", x.cart(0, 0), -2);
    for (int k = 0; k < 3; k++) due("back(" + k + ")", x.back(k), -6);
  }

  private static void feed() {
    on("2");
    says("Twenty bytes come behind the TAPE, four of each number, the highest first: how many it has");
    TurfHeaps x = new TurfHeaps();
    due("feed", x.feed(0x6d6f6f72, 0x20646179, 0x7320310a, 0x6c617720, 0x33206f64), 20); // moor days 1 law 3 od
    due("feed", x.feed(0x64732030, 0x3bffffff, -1, -1, -1), 40); // ds 0; and bytes of 255
    due("moor()", x.moor(), -4);
    due("the first of 255", x.fault(1), 25);
    due("end(25)", x.end(25), 25);
    due("moor()", x.moor(), 1);
    due("law", x.count(1), 3);
    says("NONE, and none come, if it would have more than 500");
    TurfHeaps y = new TurfHeaps();
    put(y, M);
    for (int n = 45; n <= 485; n += 20) due("feed", y.feed(0x20202020, 0x20202020, 0x0a0a0a0a, 0x20202020, 0x20202020), n);
    due("feed to 505", y.feed(0, 0, 0, 0, 0), -1);
    due("bytes", y.count(7), 485);
    due("end(481)", y.end(481), 481);
    due("feed to 501", y.feed(0, 0, 0, 0, 0), -1);
    due("end(480)", y.end(480), 480);
    due("feed to 500", y.feed(0x20202020, 0x20202020, 0x20202020, 0x20202020, 0x20202020), 500);
    due("feed to 520", y.feed(0, 0, 0, 0, 0), -1);
    due("bytes", y.count(7), 500);
    due("moor() of 500 bytes, no byte of 0 among them", y.moor(), 1);
    due("feed anew", y.feed(0, 0, 0, 0, 0), 20);
  }

  private static void end() {
    on("3");
    says("The TAPE has its first n bytes alone: n");
    TurfHeaps x = new TurfHeaps();
    due("end(0) of none", x.end(0), 0);
    put(x, M + "?");
    due("end(26), all of it", x.end(26), 26);
    due("end(25)", x.end(25), 25);
    due("bytes", x.count(7), 25);
    says("NONE, and nothing happens, if it has not so many");
    due("end(26)", x.end(26), -1);
    due("end(500)", x.end(500), -1);
    due("end(2147483647)", x.end(Integer.MAX_VALUE), -1);
    due("bytes", x.count(7), 25);
    due("end(1) of none", new TurfHeaps().end(1), -1);
    says("or n is below 0");
    due("end(-1)", x.end(-1), -1);
    due("end(-2147483648)", x.end(Integer.MIN_VALUE), -1);
    due("bytes", x.count(7), 25);
    due("moor() of what is left", x.moor(), 1);
  }

  private static void moor() {
    on("4");
    says("The TAPE (empty then) is the MOOR");
    TurfHeaps x = of(A);
    due("bytes", x.count(7), 0);
    due("lines", x.count(6), 4);
    says("(in place of another)");
    x.brings(3, 1);
    put(x, M + "heap of 7;");
    due("moor()", x.moor(), 2);
    row(x, 0, 7);
    due("carts told", x.count(4), 0);
    due("told(1) is none now", x.told(1), -2);
    due("heaps(2) is none now", x.heaps(2), -2);
    says("nothing done");
    due("acts", x.count(5), 0);
    due("undo()", x.undo(), -5);
    put(x, "moor days 16 law 3 odds 9;heap of 7;cart of 1 at 1;");
    due("moor()", x.moor(), 3);
    x.away(3);
    says("how many LINES (0: there is none then)");
    due("moor() of no bytes", x.moor(), 0);
    due("heaps(0)", x.heaps(0), -2);
    for (int what = 0; what <= 7; what++) due("count(" + what + ")", x.count(what), 0);
    put(x, FULL);
    due("moor() of most lines", x.moor(), 15);
    put(x, " \n ");
    due("moor() of blanks", x.moor(), 0);
    due("told(0)", x.told(0), -2);
    due("the tape is empty", x.count(7), 0);
    says("-4: a FAULT (all stays)");
    TurfHeaps y = of(A);
    y.brings(5, 6);
    y.row(2, 1, 7);
    y.image(1);
    put(y, "moor days 3 law 1 odds 9;heap of 2;heap of 2;heap of 2;cart of 9 at 9;cart");
    due("moor()", y.moor(), -4);
    int[] counts = {6, 0, 3, 2, 1, 1, 4, 74, 1};
    for (int what = 0; what < 9; what++) due("count(" + what + ")", y.count(what), counts[what]);
    row(y, 6, 5, 3, 2, 2);
    due("undo()", y.undo(), 0);
    due("back(1)", y.back(1), 0);
    row(y, 6, 5, 3, 2, 2);
    due("moor() once more", y.moor(), -4);
    due("bytes", y.count(7), 74);
  }

  private static void fault() {
    on("5");
    TurfHeaps x = new TurfHeaps();
    says("and ahead of any (what 1)");
    due("fault(1)", x.fault(1), -1);
    due("fault(0)", x.fault(0), 0);
    says("NONE for another what");
    for (int what : new int[] {-1, 2, Integer.MIN_VALUE, Integer.MAX_VALUE}) due("fault(" + what + ")", x.fault(what), -1);
    says("Of the latest moor(), what 0: its FAULT");
    put(x, M + "heap of 0");
    x.moor();
    due("fault(0)", x.fault(0), 2);
    due("fault(1)", x.fault(1), 33);
    due("fault(2)", x.fault(2), -1);
    due("fault(-1)", x.fault(-1), -1);
    x.end(34);
    x.moor();
    due("fault(0) of the next one", x.fault(0), 2);
    x.end(33);
    due("fault(0), no moor() since", x.fault(0), 2);
    x.moor();
    due("fault(0) of the next one", x.fault(0), 1);
    due("fault(1) of the next one", x.fault(1), 33);
    x.end(25);
    x.moor();
    says("0 without");
    due("fault(0)", x.fault(0), 0);
    says("1: its place (NONE without)");
    due("fault(1)", x.fault(1), -1);
    x.moor();
    due("fault(1) of an empty one", x.fault(1), -1);
  }

  private static void told() {
    on("6");
    says("-2: there is none such");
    onlyFrom(0, 1, -2, "told", of(A)::told);
    onlyFrom(0, 7, -2, "told", of(FULL)::told);
    due("told(0) of no heaps", of(BARE).told(0), -2);
    due("told(0), no moor", new TurfHeaps().told(0), -2);
  }

  private static void cart() {
    on("7");
    says("-2: there are none such");
    TurfHeaps x = of(FULL);
    onlyFrom(0, 5, -2, "cart(.., 0)", c -> x.cart(c, 0));
    onlyFrom(0, 5, -2, "cart(.., 1)", c -> x.cart(c, 1));
    onlyFrom(0, 1, -2, "cart(0, ..)", what -> x.cart(0, what));
    due("cart(0, 0), no carts", of(BARE).cart(0, 0), -2);
    due("cart(0, 1), no moor", new TurfHeaps().cart(0, 1), -2);
    due("cart(5, 1)", x.cart(5, 1), 15);
    due("cart(0, 1)", x.cart(0, 1), 0);
  }
}
