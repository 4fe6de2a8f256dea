/** A crusher, a screen, and a belt that brings back what was too coarse; ../shared/DOC.md says what each call answers. */
public final class CrusherLoops {
    public static final int NONE = -1, UNKNOWN = -1001, OUTSIDE = -1002, STATE = -1003, FULL = -1004;

    private static final int TEN = 10;
    private static final int HUNDRED = 100;
    private static final int LEAST_CLASSES = 2;
    private static final int MOST_CLASSES = 5;
    private static final int CELLS = MOST_CLASSES * MOST_CLASSES;
    private static final int MOST_LETTERS = 30;
    private static final int MOST_FEED = 99;
    private static final int MOST_GAP = 40;
    private static final int MOST_GRADE = 10;
    private static final int MOST_TICKS = 5000;
    private static final int MOST_TICKS_A_RUN = 50;
    private static final int MOST_STEPS = 2000;
    private static final int[] DIGEST_SHARES = {20, 50, 80, 100};

    private static final int LOAD_KIND = 0;
    private static final int LEAVES_KIND = 1;
    private static final int TENTHS_FROM = 10;

    private final Page page;
    private final Plant plant;
    private final Balance balance;
    private final Belt belt;
    private int tablesRead;

    public CrusherLoops() {
        page = new Page();
        plant = new Plant();
        balance = new Balance();
        belt = new Belt();
    }

    // ---- texts

    public int letter(int code) {
        if (code < 32 || code > 126) {
            return OUTSIDE;
        }
        return page.takesLetter((char) code) ? page.length : FULL;
    }

    public int blank() {
        int had = page.length;
        page.length = 0;
        return had;
    }

    public int fault() {
        return page.readLetters();
    }

    public int table() {
        if (!page.isTable()) {
            return STATE;
        }
        plant.takeTable(page.classes, page.tenths);
        belt.clear();
        page.length = 0;
        tablesRead++;
        return plant.classes;
    }

    // ---- what is told

    public int feed(int k, int v) {
        if (!plant.hasClass(k)) {
            return UNKNOWN;
        }
        if (v < 0 || v > MOST_FEED) {
            return OUTSIDE;
        }
        int was = plant.feeds[k];
        plant.feeds[k] = v;
        return was;
    }

    public int set(int what, int v) {
        if (what == 0 && v >= 0 && v <= MOST_GAP) {
            int was = plant.gap;
            plant.gap = v;
            return was;
        }
        if (what == 1 && v >= 1 && v <= MOST_GRADE) {
            int was = plant.grade;
            plant.grade = v;
            return was;
        }
        return OUTSIDE;
    }

    public int size(int k, int what) {
        if (!plant.hasClass(k)) {
            return UNKNOWN;
        }
        switch (what) {
            case 0:
                return plant.upperEnd(k);
            case 1:
                return plant.feedOf(k);
            case 2:
                return plant.passOf(k, plant.gap);
            default:
                return toldTenths(k, what - TENTHS_FROM);
        }
    }

    private int toldTenths(int from, int as) {
        if (as < 0 || as >= MOST_CLASSES) {
            return OUTSIDE;
        }
        return plant.hasClass(as) ? plant.tenthsOf(from, as) : NONE;
    }

    // ---- for ever

    public long load(int k, int what) {
        if (!plant.hasClass(k)) {
            return UNKNOWN;
        }
        if (what < 0 || what > 5) {
            return OUTSIDE;
        }
        balance.solve(plant, plant.gap);
        int kind = what / 2;
        if (kind != LEAVES_KIND && balance.isEndless(k)) {
            return NONE;
        }
        return lowest(balance.above(k, kind), balance.below(), what % 2);
    }

    public long all(int what) {
        if (what < 0 || what > 7) {
            return OUTSIDE;
        }
        if (plant.classes == 0) {
            return STATE;
        }
        if (what == 6) {
            return plant.feedOfAll();
        }
        balance.solve(plant, plant.gap);
        if (what == 7) {
            return balance.endless;
        }
        int kind = what / 2;
        if (kind != LEAVES_KIND && balance.endless != 0) {
            return NONE;
        }
        return lowest(balance.aboveFrom(0, kind), balance.below(), what % 2);
    }

    public long finer(int k, int part) {
        if (!plant.hasClass(k)) {
            return UNKNOWN;
        }
        if (part < 0 || part > 1) {
            return OUTSIDE;
        }
        balance.solve(plant, plant.gap);
        long whole = balance.aboveFrom(0, LEAVES_KIND);
        if (whole <= 0) {
            return STATE;
        }
        return lowest(HUNDRED * balance.aboveFrom(k, LEAVES_KIND), whole, part);
    }

    public long at(int percent, int part) {
        if (percent < 1 || percent > HUNDRED || part < 0 || part > 1) {
            return OUTSIDE;
        }
        if (!somethingLeaves()) {
            return STATE;
        }
        return sizeAt(percent, part);
    }

    private boolean somethingLeaves() {
        balance.solve(plant, plant.gap);
        return balance.aboveFrom(0, LEAVES_KIND) > 0;
    }

    /** Asks for a balance that is solved, and of which something leaves. */
    private long sizeAt(int percent, int part) {
        long due = percent * balance.aboveFrom(0, LEAVES_KIND);
        long finer = 0;
        for (int k = plant.classes - 1; k >= 0; k--) {
            long own = HUNDRED * balance.above(k, LEAVES_KIND);
            if (own > 0 && finer + own >= due) {
                long lower = plant.lowerEnd(k);
                long width = plant.upperEnd(k) - lower;
                return lowest(lower * own + width * (due - finer), own, part);
            }
            finer += own;
        }
        return STATE;
    }

    public int widest(int k, int percent) {
        if (!plant.hasClass(k)) {
            return UNKNOWN;
        }
        if (percent < 0 || percent > HUNDRED) {
            return OUTSIDE;
        }
        for (int gap = MOST_GAP; gap >= 0; gap--) {
            balance.solve(plant, gap);
            if (balance.isFineEnough(k, percent)) {
                return gap;
            }
        }
        return NONE;
    }

    // ---- tick by tick

    public int run(int n) {
        if (n < 1 || n > MOST_TICKS_A_RUN) {
            return OUTSIDE;
        }
        if (plant.classes == 0 || belt.ticks + n > MOST_TICKS) {
            return STATE;
        }
        belt.turn(plant, n);
        return belt.ticks;
    }

    public int empty() {
        if (plant.classes == 0) {
            return STATE;
        }
        int were = belt.ticks;
        belt.clear();
        return were;
    }

    public int stock(int k) {
        return plant.hasClass(k) ? floatBits(belt.stocks[k]) : UNKNOWN;
    }

    public long missed(int k) {
        if (!plant.hasClass(k)) {
            return UNKNOWN;
        }
        balance.solve(plant, plant.gap);
        if (balance.isEndless(k)) {
            return NONE;
        }
        long above = balance.above(k, LOAD_KIND);
        double top = (double) lowest(above, balance.below(), 0);
        double bottom = (double) lowest(above, balance.below(), 1);
        double less = (double) belt.stocks[k] - (bottom > 0 ? top / bottom : 0);
        return doubleBits(less < 0 ? -less : less);
    }

    public long stocks() {
        double sum = 0;
        for (int k = 0; k < plant.classes; k++) {
            sum += (double) belt.stocks[k];
        }
        return doubleBits(sum);
    }

    public int count(int what) {
        switch (what) {
            case 0:
                return page.length;
            case 1:
                return plant.classes;
            case 2:
                return plant.gap;
            case 3:
                return plant.grade;
            case 4:
                return belt.ticks;
            case 5:
                return belt.ticksEver;
            case 6:
                return tablesRead;
            default:
                return OUTSIDE;
        }
    }

    public long digest() {
        long h = 1693;
        for (int k = 0; k < plant.classes; k++) {
            h = withClass(h, k);
        }
        if (plant.classes > 0) {
            h = withAll(h);
            h = somethingLeaves() ? withShares(h) : h;
        }
        for (int k = 0; k < plant.classes; k++) {
            h = with(h, widest(k, 50));
        }
        h = with(h, stocks());
        for (int i = 0; i < page.length; i++) {
            h = with(h, page.letters[i]);
        }
        for (int what = 0; what <= 6; what++) {
            h = with(h, count(what));
        }
        return h;
    }

    private long withClass(long start, int k) {
        long h = start;
        for (int what = 0; what <= 2; what++) {
            h = with(h, size(k, what));
        }
        for (int as = 0; as < MOST_CLASSES; as++) {
            h = with(h, size(k, TENTHS_FROM + as));
        }
        for (int what = 0; what <= 5; what++) {
            h = with(h, load(k, what));
        }
        return with(with(h, stock(k)), missed(k));
    }

    private long withAll(long start) {
        long h = start;
        for (int what = 0; what <= 7; what++) {
            h = with(h, all(what));
        }
        return h;
    }

    private long withShares(long start) {
        long h = start;
        for (int k = 0; k < plant.classes; k++) {
            h = with(with(h, finer(k, 0)), finer(k, 1));
        }
        for (int i = 0; i < DIGEST_SHARES.length; i++) {
            h = with(with(h, at(DIGEST_SHARES[i], 0)), at(DIGEST_SHARES[i], 1));
        }
        return h;
    }

    private static long with(long h, long number) {
        return 31 * h + number;
    }

    // ---- numbers

    /** What is above (part 0) or below (part 1) in lowest terms; neither is negative, and what is below is not 0. */
    private static long lowest(long above, long below, int part) {
        long common = commonDivisor(above, below);
        if (common <= 0) {
            return part;
        }
        return (part == 0 ? above : below) / common;
    }

    private static long commonDivisor(long one, long other) {
        long a = one;
        long b = other;
        for (int step = 0; step < MOST_STEPS && b != 0; step++) {
            long rest = a % b;
            a = b;
            b = rest;
        }
        return a;
    }

    /** Asks for what is finite, not negative, and not below the least float: no other number comes here. */
    private static long doubleBits(double value) {
        if (!(value > 0)) {
            return 0;
        }
        double figures = value;
        int power = 0;
        for (int step = 0; step < MOST_STEPS && figures >= 2; step++) {
            figures = figures / 2;
            power++;
        }
        for (int step = 0; step < MOST_STEPS && figures < 1; step++) {
            figures = figures * 2;
            power--;
        }
        // The leading 1 of the figures is not kept, so it counts as one more in the place of the power.
        return ((long) (power + 1022) << 52) + (long) (figures * (double) (1L << 52));
    }

    private static int floatBits(float value) {
        long wide = doubleBits((double) value);
        if (wide == 0) {
            return 0;
        }
        int power = (int) (wide >>> 52) - 1023;
        int figures = (1 << 23) | ((int) (wide >>> 29) & ((1 << 23) - 1));
        if (power < -126) {
            // A float this small keeps its leading 1, behind as many zeros as its power lacks.
            return figures >> (-126 - power);
        }
        return ((power + 126) << 23) + figures;
    }

    /** THE PAGE, and the TABLE that its letters tell as far as they do. */
    private static final class Page {
        private final char[] letters = new char[MOST_LETTERS];
        private final int[] tenths = new int[CELLS];
        private int length;
        // Known as soon as the first ROW has ended, 0 ahead of that.
        private int classes;
        private int row;
        private int signs;
        private int sum;

        boolean takesLetter(char letter) {
            if (length < 0 || length >= letters.length) {
                return false;
            }
            letters[length] = letter;
            length++;
            return true;
        }

        /** How many letters from the first on a TABLE may begin with. */
        int readLetters() {
            classes = 0;
            row = 0;
            signs = 0;
            sum = 0;
            for (int i = 0; i < length; i++) {
                if (!readsLetter(letters[i])) {
                    return i;
                }
            }
            return length;
        }

        boolean isTable() {
            return readLetters() == length && classes > 0 && row == classes - 1 && sum == TEN;
        }

        private boolean readsLetter(char letter) {
            if (letter == ';') {
                return endsRow();
            }
            if (letter == 'X') {
                return readsTenths(TEN);
            }
            return letter >= '0' && letter <= '9' && readsTenths(letter - '0');
        }

        private boolean endsRow() {
            boolean enough = classes == 0 ? signs >= LEAST_CLASSES : signs == classes - row;
            boolean last = classes > 0 && row == classes - 1;
            if (sum != TEN || !enough || last) {
                return false;
            }
            if (classes == 0) {
                classes = signs;
            }
            row++;
            signs = 0;
            sum = 0;
            return true;
        }

        private boolean readsTenths(int more) {
            int most = classes == 0 ? MOST_CLASSES : classes - row;
            boolean lastSign = signs == most - 1;
            if (signs >= most || sum + more > TEN || (lastSign && sum + more < TEN)) {
                return false;
            }
            int cell = row * MOST_CLASSES + row + signs;
            if (cell < 0 || cell >= tenths.length) {
                return false;
            }
            tenths[cell] = more;
            signs++;
            sum += more;
            return true;
        }
    }

    /** What is told of the crusher and its screen. */
    private static final class Plant {
        private final int[] tenths = new int[CELLS];
        private final int[] feeds = new int[MOST_CLASSES];
        private int classes;
        private int gap = 8;
        private int grade = 9;

        void takeTable(int newClasses, int[] newTenths) {
            classes = newClasses;
            for (int cell = 0; cell < tenths.length && cell < newTenths.length; cell++) {
                tenths[cell] = newTenths[cell];
            }
            for (int k = 0; k < feeds.length; k++) {
                feeds[k] = 0;
            }
        }

        boolean hasClass(int k) {
            return k >= 0 && k < classes;
        }

        int upperEnd(int k) {
            return 1 << (classes - k);
        }

        int lowerEnd(int k) {
            return k == classes - 1 ? 0 : upperEnd(k) / 2;
        }

        int feedOf(int k) {
            return k >= 0 && k < feeds.length ? feeds[k] : 0;
        }

        int feedOfAll() {
            int sum = 0;
            for (int k = 0; k < classes; k++) {
                sum += feeds[k];
            }
            return sum;
        }

        int tenthsOf(int from, int as) {
            boolean known = from >= 0 && from <= as && as < classes;
            return known ? tenths[from * MOST_CLASSES + as] : 0;
        }

        int passOf(int k, int byGap) {
            int upper = upperEnd(k);
            if (byGap <= 0 || upper / 2 >= byGap) {
                return 0;
            }
            return upper <= byGap ? grade : grade * (2 * byGap - upper) / upper;
        }
    }

    /** What lies on the screen for ever: LOADS as fractions that all have the same below, so that they add up plainly. */
    private static final class Balance {
        private final int[] passes = new int[MOST_CLASSES];
        private final long[] loads = new long[MOST_CLASSES];
        private long loadsBelow = 1;
        private int classes;
        private int endless;

        void solve(Plant plant, int gap) {
            classes = plant.classes;
            loadsBelow = 1;
            endless = 0;
            for (int k = 0; k < classes; k++) {
                passes[k] = plant.passOf(k, gap);
                settle(plant, k);
            }
        }

        /** Asks for all coarser ones to be settled. */
        private void settle(Plant plant, int k) {
            long comes = HUNDRED * plant.feedOf(k) * loadsBelow;
            for (int j = 0; j < k; j++) {
                comes += loads[j] * (TEN - passes[j]) * plant.tenthsOf(j, k);
            }
            long goes = HUNDRED - (TEN - passes[k]) * plant.tenthsOf(k, k);
            if (goes <= 0) {
                loads[k] = 0;
                endless |= comes > 0 ? 1 << k : 0;
                return;
            }
            for (int j = 0; j < k; j++) {
                loads[j] *= goes;
            }
            loads[k] = comes;
            loadsBelow *= goes;
        }

        boolean isEndless(int k) {
            return (endless >> k & 1) != 0;
        }

        /** What is below in every fraction of which above tells what is above. */
        long below() {
            return TEN * loadsBelow;
        }

        /** Of a CLASS, what is above in its LOAD, its LEAVES or its ROUND (0 where it is ENDLESS). */
        long above(int k, int kind) {
            if (k < 0 || k >= classes) {
                return 0;
            }
            if (kind == LOAD_KIND) {
                return TEN * loads[k];
            }
            return loads[k] * (kind == LEAVES_KIND ? passes[k] : TEN - passes[k]);
        }

        long aboveFrom(int first, int kind) {
            long sum = 0;
            for (int k = first; k < classes; k++) {
                sum += above(k, kind);
            }
            return sum;
        }

        boolean isFineEnough(int k, int percent) {
            long whole = aboveFrom(0, LEAVES_KIND);
            return endless == 0 && whole > 0 && HUNDRED * aboveFrom(k, LEAVES_KIND) >= percent * whole;
        }
    }

    /** The same, started empty and run tick by tick. */
    private static final class Belt {
        private final float[] stocks = new float[MOST_CLASSES];
        private final float[] next = new float[MOST_CLASSES];
        private final float[] stays = new float[MOST_CLASSES];
        private int ticks;
        private int ticksEver;

        void clear() {
            ticks = 0;
            for (int k = 0; k < stocks.length; k++) {
                stocks[k] = 0;
            }
        }

        void turn(Plant plant, int n) {
            for (int k = 0; k < plant.classes; k++) {
                stays[k] = (float) (TEN - plant.passOf(k, plant.gap)) / (float) TEN;
            }
            for (int i = 0; i < n; i++) {
                tick(plant);
            }
            ticks += n;
            ticksEver += n;
        }

        private void tick(Plant plant) {
            for (int k = 0; k < plant.classes; k++) {
                next[k] = comesTo(plant, k);
            }
            for (int k = 0; k < plant.classes; k++) {
                stocks[k] = next[k];
            }
        }

        private float comesTo(Plant plant, int k) {
            float sum = (float) plant.feedOf(k);
            for (int j = 0; j <= k; j++) {
                float crushed = stocks[j] * stays[j];
                sum = sum + crushed * ((float) plant.tenthsOf(j, k) / (float) TEN);
            }
            return sum;
        }
    }
}
