import java.math.BigInteger;
import java.util.ArrayList;
import java.util.List;

/**
 * The document once more, written in another way than the class (exact fractions of any length, texts tried against
 * every number of CLASSES, the library's own bits), so that long runs can be compared call by call.
 */
final class Reference {
    static final int NONE = -1, UNKNOWN = -1001, OUTSIDE = -1002, STATE = -1003, FULL = -1004;

    /** A fraction in lowest terms; null stands for what is ENDLESS. */
    static final class Ratio {
        static final Ratio ZERO = new Ratio(BigInteger.ZERO, BigInteger.ONE);
        final BigInteger above;
        final BigInteger below;

        Ratio(BigInteger above, BigInteger below) {
            BigInteger common = above.gcd(below);
            this.above = above.divide(common);
            this.below = below.divide(common);
        }

        static Ratio of(long above, long below) {
            return new Ratio(BigInteger.valueOf(above), BigInteger.valueOf(below));
        }

        Ratio plus(Ratio o) {
            return new Ratio(above.multiply(o.below).add(o.above.multiply(below)), below.multiply(o.below));
        }

        Ratio minus(Ratio o) {
            return new Ratio(above.multiply(o.below).subtract(o.above.multiply(below)), below.multiply(o.below));
        }

        Ratio times(Ratio o) {
            return new Ratio(above.multiply(o.above), below.multiply(o.below));
        }

        Ratio by(Ratio o) {
            return new Ratio(above.multiply(o.below), below.multiply(o.above));
        }

        int compare(Ratio o) {
            return above.multiply(o.below).compareTo(o.above.multiply(below));
        }

        boolean isZero() {
            return above.signum() == 0;
        }

        long part(int part) {
            return (part == 0 ? above : below).longValueExact();
        }
    }

    private String page = "";
    private String[] rows = new String[0];
    private int[] feeds = new int[0];
    private float[] stocks = new float[0];
    private int gap = 8;
    private int grade = 9;
    private int ticks;
    private int ticksEver;
    private int tables;

    private int classes() {
        return rows.length;
    }

    private boolean unknown(int k) {
        return k < 0 || k >= classes();
    }

    private static int tenths(char sign) {
        return sign == 'X' ? 10 : sign - '0';
    }

    /** Whether a text begins (whole: is) a TABLE of so many CLASSES. */
    private static boolean begins(String text, int classes, boolean whole) {
        String[] parts = text.split(";", -1);
        if (parts.length > classes || (whole && parts.length != classes)) {
            return false;
        }
        for (int row = 0; row < parts.length; row++) {
            boolean ended = whole || row < parts.length - 1;
            if (!beginsRow(parts[row], classes - row, ended)) {
                return false;
            }
        }
        return true;
    }

    private static boolean beginsRow(String text, int signs, boolean ended) {
        if (text.length() > signs || !text.matches("[0-9X]*")) {
            return false;
        }
        int sum = text.chars().map(sign -> tenths((char) sign)).sum();
        boolean full = text.length() == signs;
        return sum <= 10 && (full ? sum == 10 : !ended);
    }

    private static boolean beginsAny(String text, boolean whole) {
        for (int classes = 2; classes <= 5; classes++) {
            if (begins(text, classes, whole)) {
                return true;
            }
        }
        return false;
    }

    int letter(int code) {
        if (code < 32 || code > 126) {
            return OUTSIDE;
        }
        if (page.length() == 30) {
            return FULL;
        }
        page += (char) code;
        return page.length();
    }

    int blank() {
        int had = page.length();
        page = "";
        return had;
    }

    int fault() {
        int good = 0;
        while (good < page.length() && beginsAny(page.substring(0, good + 1), false)) {
            good++;
        }
        return good;
    }

    int table() {
        if (!beginsAny(page, true)) {
            return STATE;
        }
        rows = page.split(";");
        feeds = new int[rows.length];
        stocks = new float[rows.length];
        ticks = 0;
        tables++;
        page = "";
        return rows.length;
    }

    int feed(int k, int v) {
        if (unknown(k)) {
            return UNKNOWN;
        }
        if (v < 0 || v > 99) {
            return OUTSIDE;
        }
        int was = feeds[k];
        feeds[k] = v;
        return was;
    }

    int set(int what, int v) {
        if (what == 0) {
            if (v < 0 || v > 40) {
                return OUTSIDE;
            }
            int was = gap;
            gap = v;
            return was;
        }
        if (what == 1) {
            if (v < 1 || v > 10) {
                return OUTSIDE;
            }
            int was = grade;
            grade = v;
            return was;
        }
        return OUTSIDE;
    }

    private int sizeOf(int k) {
        int size = 1;
        for (int i = k; i < classes(); i++) {
            size *= 2;
        }
        return size;
    }

    private int pass(int k) {
        int size = sizeOf(k);
        if (size <= gap) {
            return grade;
        }
        if (size >= 2 * gap) {
            return 0;
        }
        return (int) Math.floor((double) (grade * (2 * gap - size)) / size);
    }

    private int comesOut(int from, int as) {
        return as < from ? 0 : tenths(rows[from].charAt(as - from));
    }

    int size(int k, int what) {
        if (unknown(k)) {
            return UNKNOWN;
        }
        if (what == 0) {
            return sizeOf(k);
        }
        if (what == 1) {
            return feeds[k];
        }
        if (what == 2) {
            return pass(k);
        }
        if (what < 10 || what > 14) {
            return OUTSIDE;
        }
        return what - 10 >= classes() ? NONE : comesOut(k, what - 10);
    }

    private List<Ratio> loads() {
        List<Ratio> loads = new ArrayList<>();
        for (int k = 0; k < classes(); k++) {
            Ratio comes = Ratio.of(feeds[k], 1);
            for (int j = 0; j < k; j++) {
                if (loads.get(j) != null) {
                    comes = comes.plus(loads.get(j).times(back(j, k)));
                }
            }
            Ratio goes = Ratio.of(1, 1).minus(back(k, k));
            if (!goes.isZero()) {
                loads.add(comes.by(goes));
            } else {
                loads.add(comes.isZero() ? Ratio.ZERO : null);
            }
        }
        return loads;
    }

    private Ratio back(int from, int as) {
        return Ratio.of(10 - pass(from), 10).times(Ratio.of(comesOut(from, as), 10));
    }

    private Ratio leaves(int k) {
        Ratio load = loads().get(k);
        return load == null ? Ratio.ZERO : load.times(Ratio.of(pass(k), 10));
    }

    private Ratio leavesFrom(int first) {
        Ratio sum = Ratio.ZERO;
        for (int k = first; k < classes(); k++) {
            sum = sum.plus(leaves(k));
        }
        return sum;
    }

    private Ratio amount(int k, int kind) {
        Ratio load = loads().get(k);
        if (kind == 1) {
            return leaves(k);
        }
        return load == null || kind == 0 ? load : load.minus(leaves(k));
    }

    long load(int k, int what) {
        if (unknown(k)) {
            return UNKNOWN;
        }
        if (what < 0 || what > 5) {
            return OUTSIDE;
        }
        Ratio amount = amount(k, what / 2);
        return amount == null ? NONE : amount.part(what % 2);
    }

    long all(int what) {
        if (what < 0 || what > 7) {
            return OUTSIDE;
        }
        if (classes() == 0) {
            return STATE;
        }
        if (what == 6) {
            int sum = 0;
            for (int feed : feeds) {
                sum += feed;
            }
            return sum;
        }
        if (what == 7) {
            return endless();
        }
        Ratio sum = Ratio.ZERO;
        for (int k = 0; k < classes(); k++) {
            Ratio amount = amount(k, what / 2);
            if (amount == null) {
                return NONE;
            }
            sum = sum.plus(amount);
        }
        return sum.part(what % 2);
    }

    private int endless() {
        int bits = 0;
        List<Ratio> loads = loads();
        for (int k = 0; k < classes(); k++) {
            bits += loads.get(k) == null ? 1 << k : 0;
        }
        return bits;
    }

    private Ratio finer(int k) {
        return Ratio.of(100, 1).times(leavesFrom(k)).by(leavesFrom(0));
    }

    long finer(int k, int part) {
        if (unknown(k)) {
            return UNKNOWN;
        }
        if (part != 0 && part != 1) {
            return OUTSIDE;
        }
        return leavesFrom(0).isZero() ? STATE : finer(k).part(part);
    }

    long at(int percent, int part) {
        if (percent < 1 || percent > 100 || (part != 0 && part != 1)) {
            return OUTSIDE;
        }
        if (classes() == 0 || leavesFrom(0).isZero()) {
            return STATE;
        }
        Ratio due = leavesFrom(0).times(Ratio.of(percent, 100));
        int k = classes() - 1;
        while (leaves(k).isZero() || leavesFrom(k).compare(due) < 0) {
            k--;
        }
        Ratio share = due.minus(leavesFrom(k + 1)).by(leaves(k));
        Ratio lower = k == classes() - 1 ? Ratio.ZERO : Ratio.of(sizeOf(k + 1), 1);
        return lower.plus(Ratio.of(sizeOf(k), 1).minus(lower).times(share)).part(part);
    }

    int widest(int k, int percent) {
        if (unknown(k)) {
            return UNKNOWN;
        }
        if (percent < 0 || percent > 100) {
            return OUTSIDE;
        }
        int kept = gap;
        int best = NONE;
        for (gap = 0; gap <= 40; gap++) {
            boolean fine = endless() == 0 && !leavesFrom(0).isZero();
            if (fine && finer(k).compare(Ratio.of(percent, 1)) >= 0) {
                best = gap;
            }
        }
        gap = kept;
        return best;
    }

    int run(int n) {
        if (n < 1 || n > 50) {
            return OUTSIDE;
        }
        if (classes() == 0 || ticks + n > 5000) {
            return STATE;
        }
        for (int i = 0; i < n; i++) {
            tick();
        }
        return ticks;
    }

    private void tick() {
        float[] ahead = stocks.clone();
        for (int k = 0; k < classes(); k++) {
            stocks[k] = feeds[k];
            for (int j = 0; j <= k; j++) {
                float crushed = ahead[j] * ((10 - pass(j)) / 10f);
                float out = crushed * (comesOut(j, k) / 10f);
                stocks[k] = stocks[k] + out;
            }
        }
        ticks++;
        ticksEver++;
    }

    int empty() {
        if (classes() == 0) {
            return STATE;
        }
        int were = ticks;
        stocks = new float[classes()];
        ticks = 0;
        return were;
    }

    int stock(int k) {
        return unknown(k) ? UNKNOWN : Float.floatToRawIntBits(stocks[k]);
    }

    long missed(int k) {
        if (unknown(k)) {
            return UNKNOWN;
        }
        Ratio load = loads().get(k);
        if (load == null) {
            return NONE;
        }
        return Double.doubleToRawLongBits(Math.abs(stocks[k] - (double) load.part(0) / (double) load.part(1)));
    }

    long stocks() {
        double sum = 0;
        for (float stock : stocks) {
            sum += stock;
        }
        return Double.doubleToRawLongBits(sum);
    }

    int count(int what) {
        int[] told = {page.length(), classes(), gap, grade, ticks, ticksEver, tables};
        return what < 0 || what >= told.length ? OUTSIDE : told[what];
    }

    long digest() {
        List<Long> numbers = new ArrayList<>();
        for (int k = 0; k < classes(); k++) {
            for (int what : new int[] {0, 1, 2, 10, 11, 12, 13, 14}) {
                numbers.add((long) size(k, what));
            }
            for (int what = 0; what < 6; what++) {
                numbers.add(load(k, what));
            }
            numbers.add((long) stock(k));
            numbers.add(missed(k));
        }
        if (classes() > 0) {
            for (int what = 0; what < 8; what++) {
                numbers.add(all(what));
            }
            if (!leavesFrom(0).isZero()) {
                addShares(numbers);
            }
        }
        for (int k = 0; k < classes(); k++) {
            numbers.add((long) widest(k, 50));
        }
        numbers.add(stocks());
        page.chars().forEach(code -> numbers.add((long) code));
        for (int what = 0; what < 7; what++) {
            numbers.add((long) count(what));
        }
        long h = 1693;
        for (long number : numbers) {
            h = 31 * h + number;
        }
        return h;
    }

    private void addShares(List<Long> numbers) {
        for (int k = 0; k < classes(); k++) {
            numbers.add(finer(k, 0));
            numbers.add(finer(k, 1));
        }
        for (int percent : new int[] {20, 50, 80, 100}) {
            numbers.add(at(percent, 0));
            numbers.add(at(percent, 1));
        }
    }
}
