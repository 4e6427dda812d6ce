/**
 * Turf heaps on a moor: the moor is told as a text, day by day turfs are taken off heaps by a law
 * and laid to a new heap. What each call answers is said by the document's numbered promises.
 *
 * Everything a call needs is made once with the object, so that calls make no objects at all.
 */
public final class TurfHeaps {
    public static final int NONE = -1;

    private static final int NO_SUCH = -2;
    private static final int BELOW_NOTHING = -3;
    private static final int FAULTY = -4;
    private static final int NOT_NOW = -5;
    private static final int EMPTY = -6;
    private static final int NO_NUMBER = -7;
    private static final int OTHER_WIDTH = -8;
    private static final int NO_SUCH_WORTH = -1000;

    private static final int MOST_BYTES = 500;
    private static final int MOST_DAYS = 16;
    private static final int MOST_HEAPS_TOLD = 8;
    private static final int MOST_CARTS = 6;
    private static final int MOST_ACTS = 20;
    private static final int MOST_LAYS = 20;
    private static final int MOST_TURFS = 700;
    private static final int MOST_BROUGHT = 30;
    private static final int LAWS = 4;
    private static final int SLOTS = 4;
    private static final int WIDTHS = 4;
    private static final int MOST_NUMBERS = 60;
    private static final int IMAGES = 3;
    private static final int MOST_LATER = 500;
    private static final int MOST_ROUND = 2000;
    private static final int MOST_OF_ALL = 14;
    private static final int LAST_CHANCE_DAY = 7;
    private static final int MOST_SEED = 2000000000;
    private static final int MOST_SUMMERS = 20;
    private static final int ALL_CARTS = (1 << MOST_CARTS) - 1;

    private final Tape tape = new Tape();
    private final Moor moor = new Moor();
    private final Moor fresh = new Moor();
    private final Moor[] images = new Moor[IMAGES];
    private final Slot[] slots = new Slot[SLOTS];
    private final Season now = new Season();
    private final Season varied = new Season();
    private final Round round = new Round();
    private final Every every = new Every();
    private final Seen seen = new Seen();
    private final Row loose = new Row();
    private final int[] worths = new int[1 << MOST_CARTS];
    private final int[] pays = new int[8];
    private boolean passed;
    private boolean worthsKnown;
    private int roundDay = NONE;

    public TurfHeaps() {
        for (int k = 0; k < IMAGES; k++) {
            images[k] = new Moor();
        }
        for (int s = 0; s < SLOTS; s++) {
            slots[s] = new Slot();
        }
    }

    // ---- the tape and the moor

    public int feed(int a, int b, int c, int d, int e) {
        if (tape.size + 20 > MOST_BYTES) {
            return NONE;
        }
        tape.put(a);
        tape.put(b);
        tape.put(c);
        tape.put(d);
        tape.put(e);
        return tape.size;
    }

    public int end(int n) {
        if (n < 0 || n > tape.size) {
            return NONE;
        }
        tape.size = n;
        return n;
    }

    public int moor() {
        if (!tape.readInto(fresh)) {
            return FAULTY;
        }
        tape.size = 0;
        moor.become(fresh);
        forget();
        return moor.lines;
    }

    public int fault(int what) {
        if (what == 0) {
            return tape.fault;
        }
        return what == 1 ? tape.faultPlace : NONE;
    }

    public int told(int heap) {
        return isTold(heap) ? moor.told[heap] : NO_SUCH;
    }

    public int cart(int cart, int what) {
        if (!isCart(cart) || !isWhat(what)) {
            return NO_SUCH;
        }
        return what == 0 ? moor.cartTurfs[cart] : moor.cartDay[cart];
    }

    // ---- the rows of the days

    public int heaps(int day) {
        return isDay(day) ? rowOfDay(day).heaps : NO_SUCH;
    }

    public int heap(int day, int i) {
        if (!isDay(day) || i < 0) {
            return NO_SUCH;
        }
        return rowOfDay(day).heapAt(i);
    }

    public int all(int day) {
        return isDay(day) ? rowOfDay(day).turfs : NO_SUCH;
    }

    public int many(int day, int n) {
        if (!isDay(day) || n < 1 || n > MOST_TURFS) {
            return NO_SUCH;
        }
        return rowOfDay(day).heapsOf(n);
    }

    public int sorts(int day) {
        return isDay(day) ? rowOfDay(day).runs : NO_SUCH;
    }

    public int spread(int day) {
        return isDay(day) ? rowOfDay(day).highest() - rowOfDay(day).lowest() : NO_SUCH;
    }

    public int odd(int day) {
        return isDay(day) ? rowOfDay(day).oddHeaps() : NO_SUCH;
    }

    public int taken(int day) {
        return isDayAheadOfLast(day) ? rowOfDay(day).takenBy(moor.law) : NO_SUCH;
    }

    public int gone(int day) {
        return isDayAheadOfLast(day) ? rowOfDay(day).goneBy(moor.law) : NO_SUCH;
    }

    public int most() {
        if (noMoor()) {
            return NO_SUCH;
        }
        int best = 0;
        for (int day = 0; day <= moor.days; day++) {
            best = Math.max(best, rowOfDay(day).heaps);
        }
        return best;
    }

    public int peak() {
        if (noMoor()) {
            return NO_SUCH;
        }
        int best = 0;
        for (int day = 1; day <= moor.days; day++) {
            if (rowOfDay(day).highest() > rowOfDay(best).highest()) {
                best = day;
            }
        }
        return best;
    }

    public int same(int day) {
        return isDay(day) ? firstLike(day) : NO_SUCH;
    }

    public int still() {
        if (noMoor()) {
            return NO_SUCH;
        }
        int first = moor.days;
        while (first > 0 && rowOfDay(first - 1).alike(rowOfDay(moor.days))) {
            first--;
        }
        return first;
    }

    public int rows() {
        if (noMoor()) {
            return NO_SUCH;
        }
        int unlike = 0;
        for (int day = 0; day <= moor.days; day++) {
            if (firstLike(day) == day) {
                unlike++;
            }
        }
        return unlike;
    }

    public int stair(int day) {
        return isDay(day) ? asNumber(rowOfDay(day).isStair()) : NO_SUCH;
    }

    public int stairs() {
        if (noMoor()) {
            return NO_SUCH;
        }
        for (int day = 0; day <= moor.days; day++) {
            if (rowOfDay(day).isStair()) {
                return day;
            }
        }
        return NONE;
    }

    public int square(int day) {
        return isDay(day) ? rowOfDay(day).squareSide() : NO_SUCH;
    }

    public int flip(int day, int i) {
        if (!isDay(day) || i < 0) {
            return NO_SUCH;
        }
        Row row = rowOfDay(day);
        return i < row.highest() ? row.heapsFrom(i + 1) : NONE;
    }

    public int even(int day) {
        return isDay(day) ? asNumber(rowOfDay(day).sameTurnedOver()) : NO_SUCH;
    }

    public int above(int day, int other) {
        if (!isDay(day) || !isDay(other)) {
            return NO_SUCH;
        }
        return rowOfDay(day).standsTo(rowOfDay(other));
    }

    // ---- rows that go round

    public int tail(int day) {
        return isDay(day) ? roundOf(day).steps : NO_SUCH;
    }

    public int length(int day) {
        return isDay(day) ? roundOf(day).turn : NO_SUCH;
    }

    public int ring(int day) {
        return isDay(day) ? roundOf(day).mostHeaps : NO_SUCH;
    }

    public int later(int day, int n, int i) {
        if (!isDay(day) || n < 0 || n > MOST_LATER || i < 0) {
            return NO_SUCH;
        }
        loose.become(rowOfDay(day));
        for (int s = 0; s < n; s++) {
            loose.step(moor.law);
        }
        return loose.heapAt(i);
    }

    public int soon(int day) {
        return isDay(day) ? roundOf(day).firstStair : NO_SUCH;
    }

    // ---- all rows of so many turfs

    public int rowsOf(int n) {
        return isOfAll(n) ? everyOf(n).size : NO_SUCH;
    }

    public int ringed(int n) {
        return isOfAll(n) ? everyOf(n).onRings : NO_SUCH;
    }

    public int rings(int n) {
        return isOfAll(n) ? everyOf(n).ringCount : NO_SUCH;
    }

    public int gardens(int n) {
        return isOfAll(n) ? everyOf(n).notComeTo : NO_SUCH;
    }

    public int longest(int n) {
        return isOfAll(n) ? everyOf(n).longestTail : NO_SUCH;
    }

    public int ahead(int slot) {
        int wrong = smallRowFault(slot);
        if (wrong != 0) {
            return wrong;
        }
        return everyOf(loose.turfs).comersTo(loose);
    }

    public int from(int slot, int i) {
        int wrong = i < 0 ? NO_SUCH : smallRowFault(slot);
        if (wrong != 0) {
            return wrong;
        }
        return everyOf(loose.turfs).heapOfFirstComer(loose, i);
    }

    public int way(int slot) {
        int wrong = smallRowFault(slot);
        if (wrong != 0) {
            return wrong;
        }
        return everyOf(loose.turfs).tailOf(loose);
    }

    // ---- which cart to bring

    public int bring(int day, int n) {
        if (!isDayAheadOfLast(day) || n < 0 || n > MOST_BROUGHT) {
            return NO_SUCH;
        }
        if (heapsAtLast() >= n) {
            return 0;
        }
        for (int turfs = 1; turfs <= MOST_LAYS; turfs++) {
            if (heapsWithMore(day, turfs) >= n) {
                return turfs;
            }
        }
        return NONE;
    }

    public int latest(int n) {
        if (noMoor() || n < 0 || n > MOST_BROUGHT) {
            return NO_SUCH;
        }
        if (heapsAtLast() >= n) {
            return NONE;
        }
        for (int day = moor.days - 1; day >= 0; day--) {
            if (heapsWithMore(day, MOST_LAYS) >= n) {
                return day;
            }
        }
        return NONE;
    }

    public int spare() {
        if (noMoor()) {
            return NO_SUCH;
        }
        int best = NONE;
        int bestHeaps = heapsAtLast();
        for (int c = 0; c < moor.carts; c++) {
            int without = heapsWithSet(ALL_CARTS & ~(1 << c));
            if (without > bestHeaps) {
                best = c;
                bestHeaps = without;
            }
        }
        return best;
    }

    // ---- what was seen

    public int heights(int slot, int heap) {
        int wrong = seenFault(slot, isTold(heap));
        return wrong != 0 ? wrong : lookAt(slot, heap).possible;
    }

    public int least(int slot, int heap) {
        int wrong = seenFault(slot, isTold(heap));
        return wrong != 0 ? wrong : lookAt(slot, heap).lowest();
    }

    public int greatest(int slot, int heap) {
        int wrong = seenFault(slot, isTold(heap));
        return wrong != 0 ? wrong : lookAt(slot, heap).highest();
    }

    public int ask(int slot, int heap) {
        int wrong = seenFault(slot, isTold(heap));
        return wrong != 0 ? wrong : lookAt(slot, heap).bestDay(moor.days);
    }

    public int leaves(int slot, int heap) {
        int wrong = seenFault(slot, isTold(heap));
        return wrong != 0 ? wrong : lookAt(slot, heap).leftAtWorst(moor.days);
    }

    public int laws(int slot) {
        int wrong = seenFault(slot, !noMoor());
        if (wrong != 0) {
            return wrong;
        }
        int bits = 0;
        for (int l = 0; l < LAWS; l++) {
            passByLaw(l);
            if (slots[slot].tellsOf(varied)) {
                bits |= 1 << l;
            }
        }
        return bits;
    }

    public int by(int law) {
        if (noMoor() || law < 0 || law >= LAWS) {
            return NO_SUCH;
        }
        return passByLaw(law).heaps;
    }

    public int law() {
        if (noMoor()) {
            return NO_SUCH;
        }
        int best = 0;
        int bestHeaps = NONE;
        for (int l = 0; l < LAWS; l++) {
            int there = passByLaw(l).heaps;
            if (there > bestHeaps) {
                best = l;
                bestHeaps = there;
            }
        }
        return best;
    }

    // ---- shares, takers, two carts that come late

    public int worth(int set) {
        if (noMoor() || set < 0 || set >= 1 << moor.carts) {
            return NO_SUCH;
        }
        return heapsWithSet(set);
    }

    public int share(int cart, int what) {
        if (!isCart(cart) || !isWhat(what)) {
            return NO_SUCH_WORTH;
        }
        knowWorths();
        return (int) fraction(gainOverOrders(cart), factorial(moor.carts), what);
    }

    public int wins(int day, int k) {
        if (!isDay(day) || k < 1 || k > MOST_TURFS) {
            return NO_SUCH;
        }
        return asNumber(rowOfDay(day).nimSum(k + 1) != 0);
    }

    public int moves(int day, int k) {
        if (!isDay(day) || k < 1 || k > MOST_TURFS) {
            return NO_SUCH;
        }
        Row row = rowOfDay(day);
        int found = 0;
        for (int r = 0; r < row.runs; r++) {
            if (row.winningTake(r, k + 1) > 0) {
                found++;
            }
        }
        return found;
    }

    public int move(int day, int k) {
        if (!isDay(day) || k < 1 || k > MOST_TURFS) {
            return NO_SUCH;
        }
        Row row = rowOfDay(day);
        for (int r = 0; r < row.runs; r++) {
            int take = row.winningTake(r, k + 1);
            if (take > 0) {
                return 1000 * row.high[r] + take;
            }
        }
        return NONE;
    }

    public int rests(int cart, int other) {
        if (!isCart(cart) || !isCart(other) || cart == other) {
            return NO_SUCH;
        }
        for (int pair = 0; pair < 4; pair++) {
            Row last = passLate(cart, other, pair & 1, pair >> 1);
            pays[pair] = payOfFirst(last, pair & 1);
            pays[4 + pair] = payOfSecond(last, pair >> 1);
        }
        int bits = 0;
        for (int pair = 0; pair < 4; pair++) {
            if (pays[pair] >= pays[pair ^ 1] && pays[4 + pair] >= pays[4 + (pair ^ 2)]) {
                bits |= 1 << pair;
            }
        }
        return bits;
    }

    public int gets(int cart, int other, int x, int y, int what) {
        boolean two = isCart(cart) && isCart(other) && cart != other;
        if (!two || !isWhat(x) || !isWhat(y) || !isWhat(what)) {
            return NO_SUCH_WORTH;
        }
        Row last = passLate(cart, other, x, y);
        return what == 0 ? payOfFirst(last, x) : payOfSecond(last, y);
    }

    // ---- wet days by chance

    public long chance(int day, int n, int what) {
        if (!isChanceDay(day) || n < 0 || n > MOST_TURFS || !isWhat(what)) {
            return NO_SUCH;
        }
        return fraction(weighHeaps(day, n), powerOfTen(day + 1), what);
    }

    public long mean(int day, int what) {
        if (!isChanceDay(day) || !isWhat(what)) {
            return NO_SUCH;
        }
        return fraction(weighHeaps(day, NONE), powerOfTen(day + 1), what);
    }

    // ---- acts

    public int brings(int n, int day) {
        if (!isDay(day) || n < 1 || n > MOST_LAYS) {
            return NO_SUCH;
        }
        return act(day, n);
    }

    public int away(int day) {
        return isDay(day) ? act(day, 0) : NO_SUCH;
    }

    public int undo() {
        if (noMoor()) {
            return NO_SUCH;
        }
        if (moor.acts < 1) {
            return NOT_NOW;
        }
        moor.acts--;
        forget();
        return moor.acts;
    }

    public int anew() {
        if (noMoor()) {
            return NO_SUCH;
        }
        int there = moor.acts;
        moor.acts = 0;
        forget();
        return there;
    }

    // ---- summers drawn

    public int drawn(int seed, int what) {
        if (noMoor() || seed < 0 || seed > MOST_SEED || !isWhat(what)) {
            return NO_SUCH;
        }
        int wet = wetDays(seed);
        return what == 0 ? wet : heapsWithWet(wet);
    }

    public int luck(int seed, int n, int k) {
        boolean summers = seed >= 0 && seed <= MOST_SEED && n >= 1 && n <= MOST_SUMMERS;
        if (noMoor() || !summers || k < 0 || k > MOST_TURFS) {
            return NO_SUCH;
        }
        int lucky = 0;
        for (int s = 0; s < n; s++) {
            if (heapsWithWet(wetDays((long) seed + s)) >= k) {
                lucky++;
            }
        }
        return lucky;
    }

    // ---- the state

    public int rate(int heap, int n) {
        if (!isTold(heap) || n < 1 || n > MOST_LAYS) {
            return NO_SUCH;
        }
        if (moor.acts > 0) {
            return NOT_NOW;
        }
        int was = moor.told[heap];
        moor.told[heap] = n;
        forget();
        return was;
    }

    public int count(int what) {
        switch (what) {
            case 0: return moor.days;
            case 1: return moor.law;
            case 2: return moor.odds;
            case 3: return moor.heapsTold;
            case 4: return moor.carts;
            case 5: return moor.acts;
            case 6: return moor.lines;
            case 7: return tape.size;
            case 8: return slotsWithRow();
            default: return NONE;
        }
    }

    public int image(int k) {
        if (k < 0 || k >= IMAGES) {
            return NO_SUCH;
        }
        images[k].become(moor);
        images[k].kept = true;
        return 0;
    }

    public int back(int k) {
        if (k < 0 || k >= IMAGES) {
            return NO_SUCH;
        }
        if (!images[k].kept) {
            return EMPTY;
        }
        moor.become(images[k]);
        forget();
        return 0;
    }

    // ---- slots

    public int row(int slot, int width, int n) {
        if (!isSlot(slot) || width < 0 || width >= WIDTHS || n > MOST_NUMBERS) {
            return NO_SUCH;
        }
        if (n < 0) {
            return BELOW_NOTHING;
        }
        slots[slot].lay(width, n);
        return 0;
    }

    public int write(int slot, int i, long v) {
        if (!isSlot(slot)) {
            return NO_SUCH;
        }
        Slot there = slots[slot];
        if (!there.has) {
            return EMPTY;
        }
        if (i < 0 || i >= there.size) {
            return NO_NUMBER;
        }
        there.numbers[i] = cut(v, there.width);
        return 0;
    }

    public int paste(int slot, int i, int to, int k, int n) {
        if (!isSlot(slot) || !isSlot(to)) {
            return NO_SUCH;
        }
        Slot source = slots[slot];
        Slot target = slots[to];
        if (!source.has || !target.has) {
            return EMPTY;
        }
        if (source.width != target.width) {
            return OTHER_WIDTH;
        }
        if (!source.reaches(i, n) || !target.reaches(k, n)) {
            return NO_NUMBER;
        }
        System.arraycopy(source.numbers, i, target.numbers, k, n);
        return 0;
    }

    // ---- what there is

    private boolean noMoor() {
        return moor.lines == 0;
    }

    private boolean isDay(int day) {
        return !noMoor() && day >= 0 && day <= moor.days;
    }

    private boolean isDayAheadOfLast(int day) {
        return isDay(day) && day < moor.days;
    }

    private boolean isChanceDay(int day) {
        return isDayAheadOfLast(day) && day <= LAST_CHANCE_DAY;
    }

    private boolean isTold(int heap) {
        return heap >= 0 && heap < moor.heapsTold;
    }

    private boolean isCart(int cart) {
        return cart >= 0 && cart < moor.carts;
    }

    private boolean isOfAll(int n) {
        return !noMoor() && n >= 1 && n <= MOST_OF_ALL;
    }

    private static boolean isSlot(int slot) {
        return slot >= 0 && slot < SLOTS;
    }

    private static boolean isWhat(int what) {
        return what == 0 || what == 1;
    }

    private static int asNumber(boolean holds) {
        return holds ? 1 : 0;
    }

    // ---- the days as they are, and otherwise

    /** What was worked out of the moor and its acts holds no longer. */
    private void forget() {
        passed = false;
        worthsKnown = false;
        roundDay = NONE;
    }

    private Row rowOfDay(int day) {
        if (!passed) {
            now.asTold(moor);
            now.pass(moor);
            passed = true;
        }
        return now.at(day);
    }

    private int heapsAtLast() {
        return rowOfDay(moor.days).heaps;
    }

    private int firstLike(int day) {
        int first = 0;
        while (first < day && !rowOfDay(first).alike(rowOfDay(day))) {
            first++;
        }
        return first;
    }

    private Round roundOf(int day) {
        if (roundDay != day) {
            round.follow(rowOfDay(day), moor.law);
            roundDay = day;
        }
        return round;
    }

    private Every everyOf(int n) {
        every.workOut(n, moor.law);
        return every;
    }

    private int heapsWithMore(int day, int turfs) {
        varied.asTold(moor);
        varied.moreDay = day;
        varied.moreTurfs = turfs;
        varied.pass(moor);
        return varied.at(moor.days).heaps;
    }

    private int heapsWithSet(int set) {
        varied.asTold(moor);
        varied.set = set;
        varied.pass(moor);
        return varied.at(moor.days).heaps;
    }

    private int heapsWithWet(int wet) {
        varied.asTold(moor);
        varied.wet = wet;
        varied.pass(moor);
        return varied.at(moor.days).heaps;
    }

    private Row passByLaw(int law) {
        varied.asTold(moor);
        varied.law = law;
        varied.pass(moor);
        return varied.at(moor.days);
    }

    private Row passLate(int first, int second, int x, int y) {
        varied.asTold(moor);
        varied.late = x << first | y << second;
        varied.pass(moor);
        return varied.at(moor.days);
    }

    private static int payOfFirst(Row last, int late) {
        return 2 * last.heaps + last.highest() - late;
    }

    private static int payOfSecond(Row last, int late) {
        return last.heaps + 2 * last.highest() - late;
    }

    /** The act is done if there is room for it: n turfs brought, or the highest heap off for 0. */
    private int act(int day, int n) {
        if (moor.acts >= MOST_ACTS) {
            return NOT_NOW;
        }
        moor.actDay[moor.acts] = day;
        moor.actTurfs[moor.acts] = n;
        moor.acts++;
        forget();
        return rowOfDay(moor.days).heaps;
    }

    // ---- shares

    /** Summed over all orders of the carts: what the set is worth more by the cart. */
    private int gainOverOrders(int cart) {
        int bit = 1 << cart;
        int gain = 0;
        for (int set = 0; set < 1 << moor.carts; set++) {
            if ((set & bit) == 0) {
                int size = Integer.bitCount(set);
                int orders = factorial(size) * factorial(moor.carts - 1 - size);
                gain += orders * (worths[set | bit] - worths[set]);
            }
        }
        return gain;
    }

    private void knowWorths() {
        if (worthsKnown) {
            return;
        }
        for (int set = 0; set < 1 << moor.carts; set++) {
            worths[set] = heapsWithSet(set);
        }
        worthsKnown = true;
    }

    private static int factorial(int n) {
        int product = 1;
        for (int i = 2; i <= n; i++) {
            product *= i;
        }
        return product;
    }

    /** What 0: above, what 1: below, in lowest terms; below is above 0 already. */
    private static long fraction(long above, long below, int what) {
        long common = commonDivisor(Math.abs(above), below);
        if (common < 1) {
            return what == 0 ? above : below;
        }
        return what == 0 ? above / common : below / common;
    }

    private static long commonDivisor(long a, long b) {
        long x = a;
        long y = b;
        for (int guard = 0; guard < 200 && y != 0; guard++) {
            long rest = x % y;
            x = y;
            y = rest;
        }
        return x;
    }

    // ---- chances

    /**
     * Over all choices of wet days up to a day, weighted in tenths: those that leave n heaps or more
     * behind it, or, if n is NONE, all by the number of heaps that they leave.
     */
    private long weighHeaps(int day, int n) {
        varied.asTold(moor);
        varied.begin(moor);
        long sum = 0;
        int goodTo = 0;
        for (int choice = 0; choice < 2 << day; choice++) {
            // The first day is the highest bit, so that days ahead of a changed one needn't be passed again.
            int changed = choice == 0 ? 0 : day - Integer.bitCount((choice - 1) & ~choice);
            goodTo = Math.min(goodTo, changed);
            long weight = weightOf(Integer.bitCount(choice), day + 1);
            if (weight > 0) {
                passChoice(choice, goodTo, day);
                goodTo = day;
                sum += weight * countOf(varied.at(day + 1).heaps, n);
            }
        }
        return sum;
    }

    private void passChoice(int choice, int first, int last) {
        for (int d = first; d <= last; d++) {
            varied.wet = (choice >> (last - d) & 1) << d;
            varied.next(moor, d);
        }
    }

    private long weightOf(int wetDays, int ofDays) {
        long weight = 1;
        for (int i = 0; i < ofDays; i++) {
            weight *= i < wetDays ? moor.odds : 10 - moor.odds;
        }
        return weight;
    }

    private static int countOf(int heaps, int n) {
        return n == NONE ? heaps : asNumber(heaps >= n);
    }

    private static long powerOfTen(int n) {
        long power = 1;
        for (int i = 0; i < n; i++) {
            power *= 10;
        }
        return power;
    }

    private int wetDays(long seed) {
        long x = seed;
        int bits = 0;
        for (int d = 0; d < moor.days; d++) {
            x = (1103515245L * x + 12345L) & 0x7fffffffL;
            if (x / 65536 % 10 < moor.odds) {
                bits |= 1 << d;
            }
        }
        return bits;
    }

    // ---- slots

    private int slotsWithRow() {
        int there = 0;
        for (int s = 0; s < SLOTS; s++) {
            there += asNumber(slots[s].has);
        }
        return there;
    }

    private static long cut(long v, int width) {
        switch (width) {
            case 0: return (byte) v;
            case 1: return (short) v;
            case 2: return (int) v;
            default: return v;
        }
    }

    /** 0, and the slot's row is in loose, if it is one of those that ALL can have. */
    private int smallRowFault(int slot) {
        if (!isSlot(slot) || noMoor()) {
            return NO_SUCH;
        }
        if (!slots[slot].has) {
            return EMPTY;
        }
        return slots[slot].fillSmall(loose) ? 0 : NO_SUCH;
    }

    private int seenFault(int slot, boolean askable) {
        if (!isSlot(slot) || !askable) {
            return NO_SUCH;
        }
        if (!slots[slot].has) {
            return EMPTY;
        }
        return slots[slot].isOfThrees(moor.days) ? 0 : NO_SUCH;
    }

    private Seen lookAt(int slot, int heap) {
        seen.clear();
        for (int turfs = 1; turfs <= MOST_LAYS; turfs++) {
            varied.asTold(moor);
            varied.otherHeap = heap;
            varied.otherTurfs = turfs;
            varied.pass(moor);
            if (slots[slot].tellsOf(varied)) {
                seen.keep(turfs, varied);
            }
        }
        return seen;
    }

    // ---- the classes inside

    /** Bytes that were fed, and how they are read as a moor. */
    private static final class Tape {
        private static final int AT_END = 0;
        private static final int WORD = 1;
        private static final int NUMBER = 2;
        private static final int SIGN = 3;
        private static final int NO_TOKEN = 4;
        private static final int OUT_OF_ALL_BOUNDS = 1000;

        private final byte[] bytes = new byte[MOST_BYTES];
        private int size;
        private int fault;
        private int faultPlace = NONE;
        private int place;
        private int kind;
        private int start;

        private void put(int number) {
            for (int shift = 24; shift >= 0; shift -= 8) {
                if (size < MOST_BYTES) {
                    bytes[size] = (byte) (number >> shift);
                    size++;
                }
            }
        }

        private boolean readInto(Moor moor) {
            moor.clear();
            fault = 0;
            faultPlace = NONE;
            place = 0;
            nextToken();
            for (int i = 0; i < MOST_BYTES && kind != AT_END && fault == 0; i++) {
                readLine(moor);
            }
            return fault == 0;
        }

        private void readLine(Moor moor) {
            if (moor.lines == 0) {
                readFirst(moor);
            } else if (isWord("heap")) {
                readHeap(moor);
            } else if (isWord("cart")) {
                readCart(moor);
            } else {
                fail(1);
            }
            expect(kind == SIGN);
            moor.lines++;
        }

        private void readFirst(Moor moor) {
            expect(isWord("moor"));
            expect(isWord("days"));
            moor.days = expectNumber(1, MOST_DAYS);
            expect(isWord("law"));
            moor.law = expectNumber(0, LAWS - 1);
            expect(isWord("odds"));
            moor.odds = expectNumber(0, 10);
        }

        private void readHeap(Moor moor) {
            if (moor.heapsTold >= MOST_HEAPS_TOLD) {
                fail(3);
                return;
            }
            nextToken();
            expect(isWord("of"));
            moor.told[moor.heapsTold] = expectNumber(1, MOST_LAYS);
            moor.heapsTold++;
        }

        private void readCart(Moor moor) {
            if (moor.carts >= MOST_CARTS) {
                fail(3);
                return;
            }
            nextToken();
            expect(isWord("of"));
            moor.cartTurfs[moor.carts] = expectNumber(1, MOST_LAYS);
            expect(isWord("at"));
            moor.cartDay[moor.carts] = expectNumber(0, MOST_DAYS - 1);
            moor.carts++;
        }

        /** The token that stands here is gone by, if it is the one that is due. */
        private void expect(boolean due) {
            if (fault != 0) {
                return;
            }
            if (due) {
                nextToken();
            } else {
                fail(1);
            }
        }

        private int expectNumber(int low, int high) {
            if (fault != 0) {
                return low;
            }
            if (kind != NUMBER) {
                fail(1);
                return low;
            }
            int value = number();
            if (value < low || value > high) {
                fail(2);
                return low;
            }
            nextToken();
            return value;
        }

        private void fail(int what) {
            if (fault == 0) {
                fault = what;
                faultPlace = start;
            }
        }

        private void nextToken() {
            while (place < size && isBlank(bytes[place])) {
                place++;
            }
            start = place;
            if (place >= size) {
                kind = AT_END;
                return;
            }
            byte first = bytes[place];
            place++;
            if (isLetter(first)) {
                kind = WORD;
                while (place < size && isLetter(bytes[place])) {
                    place++;
                }
            } else if (isDigit(first)) {
                kind = NUMBER;
                while (place < size && isDigit(bytes[place])) {
                    place++;
                }
            } else {
                kind = first == ';' ? SIGN : NO_TOKEN;
            }
        }

        private boolean isWord(String text) {
            if (kind != WORD || place - start != text.length()) {
                return false;
            }
            for (int i = 0; i < text.length(); i++) {
                if (bytes[start + i] != text.charAt(i)) {
                    return false;
                }
            }
            return true;
        }

        private int number() {
            int value = 0;
            for (int p = start; p < place; p++) {
                value = Math.min(OUT_OF_ALL_BOUNDS, 10 * value + bytes[p] - '0');
            }
            return value;
        }

        private static boolean isBlank(byte b) {
            return b == 32 || b == 10;
        }

        private static boolean isLetter(byte b) {
            return b >= 'a' && b <= 'z';
        }

        private static boolean isDigit(byte b) {
            return b >= '0' && b <= '9';
        }
    }

    /** What a text tells, and the acts done since; without lines there is none. */
    private static final class Moor {
        private final int[] told = new int[MOST_HEAPS_TOLD];
        private final int[] cartTurfs = new int[MOST_CARTS];
        private final int[] cartDay = new int[MOST_CARTS];
        private final int[] actTurfs = new int[MOST_ACTS];
        private final int[] actDay = new int[MOST_ACTS];
        private int days;
        private int law;
        private int odds;
        private int lines;
        private int heapsTold;
        private int carts;
        private int acts;
        private boolean kept;

        private void clear() {
            days = 0;
            law = 0;
            odds = 0;
            lines = 0;
            heapsTold = 0;
            carts = 0;
            acts = 0;
        }

        private void become(Moor that) {
            days = that.days;
            law = that.law;
            odds = that.odds;
            lines = that.lines;
            heapsTold = that.heapsTold;
            carts = that.carts;
            acts = that.acts;
            System.arraycopy(that.told, 0, told, 0, MOST_HEAPS_TOLD);
            System.arraycopy(that.cartTurfs, 0, cartTurfs, 0, MOST_CARTS);
            System.arraycopy(that.cartDay, 0, cartDay, 0, MOST_CARTS);
            System.arraycopy(that.actTurfs, 0, actTurfs, 0, MOST_ACTS);
            System.arraycopy(that.actDay, 0, actDay, 0, MOST_ACTS);
        }
    }

    /**
     * A row of heaps, kept as runs of heaps of like height, the highest first: hundreds of heaps of one
     * turf cost no more than one, and 700 turfs have at most 36 unlike heights.
     */
    private static final class Row {
        private static final int MOST_RUNS = 40;

        private final int[] high = new int[MOST_RUNS];
        private final int[] times = new int[MOST_RUNS];
        private int runs;
        private int heaps;
        private int turfs;

        private void clear() {
            runs = 0;
            heaps = 0;
            turfs = 0;
        }

        private void become(Row that) {
            System.arraycopy(that.high, 0, high, 0, that.runs);
            System.arraycopy(that.times, 0, times, 0, that.runs);
            runs = that.runs;
            heaps = that.heaps;
            turfs = that.turfs;
        }

        private boolean alike(Row that) {
            if (runs != that.runs || heaps != that.heaps || turfs != that.turfs) {
                return false;
            }
            for (int r = 0; r < runs; r++) {
                if (high[r] != that.high[r] || times[r] != that.times[r]) {
                    return false;
                }
            }
            return true;
        }

        /** One heap more. */
        private void lay(int height) {
            if (height < 1) {
                return;
            }
            int r = runs;
            while (r > 0 && high[r - 1] < height) {
                r--;
            }
            if (r > 0 && high[r - 1] == height) {
                times[r - 1]++;
            } else if (runs < MOST_RUNS) {
                System.arraycopy(high, r, high, r + 1, runs - r);
                System.arraycopy(times, r, times, r + 1, runs - r);
                high[r] = height;
                times[r] = 1;
                runs++;
            } else {
                return;
            }
            heaps++;
            turfs += height;
        }

        /** The highest heap goes: how high it was, 0 without. */
        private int dropHighest() {
            if (runs == 0) {
                return 0;
            }
            int height = high[0];
            times[0]--;
            heaps--;
            turfs -= height;
            if (times[0] == 0) {
                runs--;
                System.arraycopy(high, 1, high, 0, runs);
                System.arraycopy(times, 1, times, 0, runs);
            }
            return height;
        }

        private void step(int law) {
            int set = law == 1 ? dropHighest() : 0;
            lay(lower(law));
            lay(set);
        }

        /** Takes turfs off each heap: how many. No heap overtakes another by it, so the order stays. */
        private int lower(int law) {
            int taken = 0;
            int left = 0;
            int kept = 0;
            for (int r = 0; r < runs; r++) {
                int off = offEach(law, high[r]);
                int height = high[r] - off;
                taken += off * times[r];
                if (height > 0) {
                    left += times[r];
                    if (kept > 0 && high[kept - 1] == height) {
                        times[kept - 1] += times[r];
                    } else {
                        high[kept] = height;
                        times[kept] = times[r];
                        kept++;
                    }
                }
            }
            runs = kept;
            heaps = left;
            turfs -= taken;
            return taken;
        }

        private static int offEach(int law, int height) {
            if (height > 1) {
                return law == 3 ? 2 : 1;
            }
            return law == 2 ? 0 : 1;
        }

        private int takenBy(int law) {
            int taken = 0;
            for (int r = 0; r < runs; r++) {
                taken += offEach(law, high[r]) * touched(law, r);
            }
            return taken;
        }

        private int goneBy(int law) {
            int gone = 0;
            for (int r = 0; r < runs; r++) {
                if (offEach(law, high[r]) == high[r]) {
                    gone += touched(law, r);
                }
            }
            return gone;
        }

        private int touched(int law, int r) {
            return law == 1 && r == 0 ? times[r] - 1 : times[r];
        }

        private int highest() {
            return runs > 0 ? high[0] : 0;
        }

        private int lowest() {
            return runs > 0 ? high[runs - 1] : 0;
        }

        private int heapAt(int i) {
            int past = 0;
            for (int r = 0; r < runs; r++) {
                past += times[r];
                if (i < past) {
                    return high[r];
                }
            }
            return NONE;
        }

        private int heapsOf(int height) {
            for (int r = 0; r < runs; r++) {
                if (high[r] == height) {
                    return times[r];
                }
            }
            return 0;
        }

        private int heapsFrom(int height) {
            int found = 0;
            for (int r = 0; r < runs && high[r] >= height; r++) {
                found += times[r];
            }
            return found;
        }

        private int oddHeaps() {
            int found = 0;
            for (int r = 0; r < runs; r++) {
                if (high[r] % 2 == 1) {
                    found += times[r];
                }
            }
            return found;
        }

        /** As many unlike heights as the highest has turfs, and one heap of each: k, .., 1. */
        private boolean isStair() {
            return runs > 0 && high[0] == runs && heaps == runs;
        }

        private int squareSide() {
            int side = 0;
            while (side < heaps && heapsFrom(side + 1) > side) {
                side++;
            }
            return side;
        }

        private boolean sameTurnedOver() {
            if (highest() != heaps) {
                return false;
            }
            for (int i = 0; i < heaps; i++) {
                if (heapAt(i) != heapsFrom(i + 1)) {
                    return false;
                }
            }
            return true;
        }

        /** 0 alike, 1 this one is above, 2 that one is, 3 neither; NONE: they can't be compared. */
        private int standsTo(Row that) {
            if (turfs != that.turfs) {
                return NONE;
            }
            int lead = 0;
            boolean ahead = false;
            boolean behind = false;
            int longer = Math.max(heaps, that.heaps);
            for (int i = 0; i < longer; i++) {
                lead += Math.max(0, heapAt(i)) - Math.max(0, that.heapAt(i));
                ahead = ahead || lead > 0;
                behind = behind || lead < 0;
            }
            return (ahead ? 1 : 0) + (behind ? 2 : 0);
        }

        /** Of heaps from which less than modulus are taken at once; who begins wins unless it is 0. */
        private int nimSum(int modulus) {
            if (modulus < 1) {
                return 0;
            }
            int sum = 0;
            for (int r = 0; r < runs; r++) {
                if (times[r] % 2 == 1) {
                    sum ^= high[r] % modulus;
                }
            }
            return sum;
        }

        /** How many turfs to take off a heap of run r to win, 0: it can't be won there. At most one does. */
        private int winningTake(int r, int modulus) {
            if (modulus < 1 || r < 0 || r >= runs) {
                return 0;
            }
            int sum = nimSum(modulus);
            if (sum == 0) {
                return 0;
            }
            int rest = high[r] % modulus;
            int due = rest ^ sum;
            if (due >= modulus) {
                return 0;
            }
            int take = due < rest ? rest - due : rest - due + modulus;
            return take <= high[r] ? take : 0;
        }
    }

    /** The rows of all days, as told or with one thing otherwise. */
    private static final class Season {
        private final Row[] rows = new Row[MOST_DAYS + 1];
        private int law;
        private int set;
        private int late;
        private int wet;
        private int moreDay;
        private int moreTurfs;
        private int otherHeap;
        private int otherTurfs;

        private Season() {
            for (int d = 0; d <= MOST_DAYS; d++) {
                rows[d] = new Row();
            }
        }

        private void asTold(Moor moor) {
            law = moor.law;
            set = ALL_CARTS;
            late = 0;
            wet = 0;
            moreDay = NONE;
            moreTurfs = 0;
            otherHeap = NONE;
            otherTurfs = 0;
        }

        private Row at(int day) {
            return day >= 0 && day <= MOST_DAYS ? rows[day] : rows[0];
        }

        private void pass(Moor moor) {
            begin(moor);
            for (int d = 0; d < moor.days; d++) {
                next(moor, d);
            }
        }

        private void begin(Moor moor) {
            Row first = rows[0];
            first.clear();
            for (int h = 0; h < moor.heapsTold; h++) {
                first.lay(h == otherHeap ? otherTurfs : moor.told[h]);
            }
            arrive(moor, 0);
        }

        /** The row of the day behind this one. */
        private void next(Moor moor, int day) {
            if (day < 0 || day >= MOST_DAYS) {
                return;
            }
            Row row = rows[day + 1];
            row.become(rows[day]);
            if ((wet >> day & 1) == 0) {
                row.step(law);
            }
            arrive(moor, day + 1);
        }

        private void arrive(Moor moor, int day) {
            Row row = at(day);
            for (int c = 0; c < moor.carts; c++) {
                if ((set >> c & 1) == 1 && moor.cartDay[c] + (late >> c & 1) == day) {
                    row.lay(moor.cartTurfs[c]);
                }
            }
            if (moreDay == day) {
                row.lay(moreTurfs);
            }
            int off = 0;
            for (int a = 0; a < moor.acts; a++) {
                if (moor.actDay[a] == day) {
                    row.lay(moor.actTurfs[a]);
                    off += moor.actTurfs[a] == 0 ? 1 : 0;
                }
            }
            for (int o = 0; o < off; o++) {
                row.dropHighest();
            }
        }
    }

    /** From a row on by steps alone; all NONE, if they are more than 2,000. */
    private static final class Round {
        // A mark set at 2,047 steps and gone back to within 2,000 more shows each round that counts.
        private static final int MOST_SOUGHT = 4100;

        private final Row slow = new Row();
        private final Row fast = new Row();
        private int steps;
        private int turn;
        private int mostHeaps;
        private int firstStair;

        private void follow(Row row, int law) {
            turn = turnFrom(row, law);
            steps = turn == NONE ? NONE : stepsAheadOfRing(row, law);
            mostHeaps = NONE;
            if (steps == NONE) {
                turn = NONE;
                firstStair = NONE;
                return;
            }
            for (int s = 0; s < turn; s++) {
                mostHeaps = Math.max(mostHeaps, slow.heaps);
                lookForStair(steps + s);
                slow.step(law);
            }
        }

        /** Brent's way: a mark is left behind at each power of two, until the row is at it again. */
        private int turnFrom(Row row, int law) {
            slow.become(row);
            fast.become(row);
            int power = 1;
            int since = 0;
            for (int s = 0; s < MOST_SOUGHT; s++) {
                fast.step(law);
                since++;
                if (fast.alike(slow)) {
                    return since <= MOST_ROUND ? since : NONE;
                }
                if (since == power) {
                    slow.become(fast);
                    power *= 2;
                    since = 0;
                }
            }
            return NONE;
        }

        /** Behind it slow stands on the first row that comes again. */
        private int stepsAheadOfRing(Row row, int law) {
            firstStair = NONE;
            slow.become(row);
            fast.become(row);
            for (int s = 0; s < turn; s++) {
                fast.step(law);
            }
            for (int s = 0; s + turn <= MOST_ROUND; s++) {
                if (slow.alike(fast)) {
                    return s;
                }
                lookForStair(s);
                slow.step(law);
                fast.step(law);
            }
            return NONE;
        }

        private void lookForStair(int at) {
            if (firstStair == NONE && slow.isStair()) {
                firstStair = at;
            }
        }
    }

    /** All rows of n turfs in order, that with the greater heap first, and where a step leads from each. */
    private static final class Every {
        private static final int MOST_ROWS = 135;

        private final long[] codes = new long[MOST_ROWS];
        private final int[] next = new int[MOST_ROWS];
        private final int[] comers = new int[MOST_ROWS];
        private final int[] waiting = new int[MOST_ROWS];
        private final int[] order = new int[MOST_ROWS];
        private final int[] tails = new int[MOST_ROWS];
        private final int[] parts = new int[MOST_OF_ALL];
        private final Row row = new Row();
        private int size;
        private int onRings;
        private int ringCount;
        private int notComeTo;
        private int longestTail;
        private int ofTurfs;
        private int byLaw = NONE;

        private void workOut(int n, int law) {
            if (n == ofTurfs && law == byLaw || n < 1 || n > MOST_OF_ALL) {
                return;
            }
            ofTurfs = n;
            byLaw = law;
            listRows(n);
            linkRows(law);
            int off = peelTails();
            onRings = size - off;
            measureTails(off);
            countRings();
        }

        private void listRows(int n) {
            size = 0;
            parts[0] = n;
            int used = 1;
            while (used > 0 && size < MOST_ROWS) {
                codes[size] = codeOfParts(used);
                size++;
                used = nextParts(used);
            }
        }

        /** The parts that come next in order: how many, 0 behind the last. */
        private int nextParts(int used) {
            int at = used - 1;
            int left = 0;
            while (at >= 0 && parts[at] == 1) {
                left++;
                at--;
            }
            if (at < 0) {
                return 0;
            }
            parts[at]--;
            left++;
            int most = parts[at];
            int end = at + 1;
            while (left > 0 && end < MOST_OF_ALL) {
                parts[end] = Math.min(most, left);
                left -= parts[end];
                end++;
            }
            return end;
        }

        // Four bits a heap, the highest heap in the highest bits: codes stand in the order of the rows.
        private long codeOfParts(int used) {
            long code = 0;
            for (int i = 0; i < MOST_OF_ALL; i++) {
                code = code << 4 | (i < used ? parts[i] : 0);
            }
            return code;
        }

        private static int heapOfCode(long code, int i) {
            return i < MOST_OF_ALL ? (int) (code >> 4 * (MOST_OF_ALL - 1 - i) & 15) : 0;
        }

        private static long codeOf(Row row) {
            long code = 0;
            int room = MOST_OF_ALL;
            for (int r = 0; r < row.runs; r++) {
                for (int t = 0; t < row.times[r] && room > 0; t++) {
                    code = code << 4 | row.high[r];
                    room--;
                }
            }
            return code << 4 * room;
        }

        private void fill(long code) {
            row.clear();
            for (int i = 0; i < MOST_OF_ALL; i++) {
                row.lay(heapOfCode(code, i));
            }
        }

        private int indexOf(long code) {
            int low = 0;
            int high = size - 1;
            for (int guard = 0; guard < MOST_ROWS && low < high; guard++) {
                int middle = (low + high) / 2;
                if (codes[middle] > code) {
                    low = middle + 1;
                } else {
                    high = middle;
                }
            }
            return low;
        }

        private void linkRows(int law) {
            for (int i = 0; i < size; i++) {
                comers[i] = 0;
            }
            for (int i = 0; i < size; i++) {
                fill(codes[i]);
                row.step(law);
                next[i] = indexOf(codeOf(row));
                comers[next[i]]++;
            }
            notComeTo = 0;
            for (int i = 0; i < size; i++) {
                waiting[i] = comers[i];
                notComeTo += comers[i] == 0 ? 1 : 0;
            }
        }

        /** Rows that no step comes to are put into order, then those that only such come to: how many. */
        private int peelTails() {
            int put = 0;
            for (int i = 0; i < size; i++) {
                if (waiting[i] == 0) {
                    order[put] = i;
                    put++;
                }
            }
            for (int done = 0; done < put; done++) {
                int to = next[order[done]];
                waiting[to]--;
                if (waiting[to] == 0 && put < MOST_ROWS) {
                    order[put] = to;
                    put++;
                }
            }
            return put;
        }

        private void measureTails(int off) {
            for (int i = 0; i < size; i++) {
                tails[i] = 0;
            }
            longestTail = 0;
            for (int o = off - 1; o >= 0; o--) {
                int i = order[o];
                tails[i] = tails[next[i]] + 1;
                longestTail = Math.max(longestTail, tails[i]);
            }
        }

        /** What still waits is on a ring; each ring is gone round once, and waits no longer. */
        private void countRings() {
            ringCount = 0;
            for (int i = 0; i < size; i++) {
                if (waiting[i] > 0) {
                    ringCount++;
                }
                int at = i;
                for (int guard = 0; guard < size && waiting[at] > 0; guard++) {
                    waiting[at] = 0;
                    at = next[at];
                }
            }
        }

        private int comersTo(Row that) {
            return comers[indexOf(codeOf(that))];
        }

        private int tailOf(Row that) {
            return tails[indexOf(codeOf(that))];
        }

        private int heapOfFirstComer(Row that, int i) {
            int to = indexOf(codeOf(that));
            for (int f = 0; f < size; f++) {
                if (next[f] == to) {
                    int height = heapOfCode(codes[f], i);
                    return height > 0 ? height : NONE;
                }
            }
            return NONE;
        }
    }

    /** A slot: a row of numbers, or nothing. */
    private static final class Slot {
        private final long[] numbers = new long[MOST_NUMBERS];
        private boolean has;
        private int width;
        private int size;

        private void lay(int ofWidth, int n) {
            has = true;
            width = ofWidth;
            size = n;
            for (int i = 0; i < n; i++) {
                numbers[i] = 0;
            }
        }

        private boolean reaches(int i, int n) {
            return i >= 0 && n >= 0 && n <= size && i <= size - n;
        }

        /** Whether the numbers are heaps of at most 14 turfs together; then they are in the row. */
        private boolean fillSmall(Row row) {
            row.clear();
            for (int i = 0; i < size; i++) {
                if (numbers[i] < 1 || numbers[i] > MOST_OF_ALL - row.turfs) {
                    return false;
                }
                row.lay((int) numbers[i]);
            }
            return row.heaps > 0;
        }

        private boolean isOfThrees(int days) {
            if (size % 3 != 0) {
                return false;
            }
            for (int i = 0; i < size; i++) {
                int bound = i % 3 == 0 ? days : MOST_TURFS;
                if (numbers[i] < 0 || numbers[i] > bound) {
                    return false;
                }
            }
            return true;
        }

        /** Whether it was so in the days of the season as the threes tell. */
        private boolean tellsOf(Season season) {
            for (int i = 0; i + 2 < size; i += 3) {
                Row row = season.at((int) numbers[i]);
                if (row.heaps != numbers[i + 1] || row.highest() != numbers[i + 2]) {
                    return false;
                }
            }
            return true;
        }
    }

    /** Heights that a heap can have had, each with how many heaps there were then day by day. */
    private static final class Seen {
        private final int[] turfs = new int[MOST_LAYS];
        private final int[][] heaps = new int[MOST_LAYS][MOST_DAYS + 1];
        private int possible;

        private void clear() {
            possible = 0;
        }

        private void keep(int height, Season season) {
            if (possible >= MOST_LAYS) {
                return;
            }
            turfs[possible] = height;
            for (int d = 0; d <= MOST_DAYS; d++) {
                heaps[possible][d] = season.at(d).heaps;
            }
            possible++;
        }

        private int lowest() {
            return possible > 0 ? turfs[0] : NONE;
        }

        private int highest() {
            return possible > 0 ? turfs[possible - 1] : NONE;
        }

        private int bestDay(int days) {
            int best = NONE;
            int left = possible;
            for (int d = 0; d <= days; d++) {
                int worst = worstOf(d);
                if (worst < left) {
                    best = d;
                    left = worst;
                }
            }
            return best;
        }

        private int leftAtWorst(int days) {
            int day = bestDay(days);
            return day == NONE ? possible : worstOf(day);
        }

        private int worstOf(int day) {
            int worst = 0;
            for (int i = 0; i < possible; i++) {
                int like = 0;
                for (int j = 0; j < possible; j++) {
                    like += heaps[j][day] == heaps[i][day] ? 1 : 0;
                }
                worst = Math.max(worst, like);
            }
            return worst;
        }
    }
}
