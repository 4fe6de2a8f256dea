import java.util.Random;

/** Long runs of calls, drawn from fixed seeds, on the class and on the reference: every answer must be the same. */
public final class RandomRunsTest {
    private static final int RUNS = 400;
    private static final int CALLS = 510;
    private static final int MOST_WRONG = 20;

    private final Checks checks;
    private final Random random;
    private final CrusherLoops x = new CrusherLoops();
    private final Reference y = new Reference();
    private final int seed;
    private int calls;

    private RandomRunsTest(Checks checks, int seed) {
        this.checks = checks;
        this.seed = seed;
        this.random = new Random(seed);
    }

    public static void main(String[] args) {
        Checks checks = new Checks();
        for (int seed = 0; seed < RUNS && checks.wrong() < MOST_WRONG; seed++) {
            new RandomRunsTest(checks, seed).play();
        }
        checks.end("RandomRunsTest");
    }

    private void play() {
        while (calls < CALLS) {
            step();
        }
        same("digest()", x.digest(), y.digest());
    }

    private void same(String call, long got, long want) {
        calls++;
        checks.due("seed " + seed + ", call " + calls + ": " + call, got, want);
    }

    private void step() {
        switch (random.nextInt(22)) {
            case 0:
            case 1:
                text();
                break;
            case 2:
                same("fault()", x.fault(), y.fault());
                break;
            case 3:
                same("table()", x.table(), y.table());
                break;
            case 4:
                if (random.nextInt(4) == 0) {
                    same("blank()", x.blank(), y.blank());
                }
                break;
            case 5:
            case 6:
            case 7:
                feed();
                break;
            case 8:
            case 9:
                set();
                break;
            case 10:
                if (random.nextInt(6) == 0) {
                    same("empty()", x.empty(), y.empty());
                }
                break;
            case 11:
            case 12:
                int n = any(1, 50);
                same("run(" + n + ")", x.run(n), y.run(n));
                break;
            case 13:
                if (random.nextInt(4) == 0) {
                    same("digest()", x.digest(), y.digest());
                }
                break;
            default:
                ask();
        }
    }

    /** A number as told, or (seldom) one at its edges or far off. */
    private int any(int least, int most) {
        int[] odd = {least - 1, most + 1, least, most, Integer.MIN_VALUE, Integer.MAX_VALUE};
        return random.nextInt(9) == 0 ? odd[random.nextInt(odd.length)] : least + random.nextInt(most - least + 1);
    }

    private int anyClass() {
        int classes = x.count(1);
        return any(0, Math.max(classes, 1) - 1);
    }

    private void text() {
        if (random.nextInt(3) == 0) {
            int code = any(32, 126);
            same("letter(" + code + ")", x.letter(code), y.letter(code));
            return;
        }
        same("blank()", x.blank(), y.blank());
        String text = spoiled(anyTable());
        for (int i = 0; i < text.length(); i++) {
            int code = text.charAt(i);
            same("letter(" + code + ")", x.letter(code), y.letter(code));
        }
        same("fault()", x.fault(), y.fault());
        if (random.nextInt(3) != 0) {
            same("table()", x.table(), y.table());
        }
    }

    private String anyTable() {
        int classes = 2 + random.nextInt(4);
        StringBuilder text = new StringBuilder();
        for (int row = 0; row < classes; row++) {
            if (row > 0) {
                text.append(';');
            }
            addRow(text, classes - row);
        }
        return text.toString();
    }

    private void addRow(StringBuilder text, int signs) {
        int left = 10;
        for (int i = 0; i < signs; i++) {
            boolean all = i == signs - 1 || random.nextInt(6) == 0;
            int tenths = all ? left : random.nextInt(left + 1);
            text.append(tenths == 10 ? "X" : String.valueOf(tenths));
            left -= tenths;
        }
    }

    private String spoiled(String table) {
        StringBuilder text = new StringBuilder(table);
        if (random.nextInt(3) != 0) {
            return table;
        }
        int place = random.nextInt(text.length());
        char sign = "0123456789X;; x:/9"
                .charAt(random.nextInt(18));
        switch (random.nextInt(4)) {
            case 0:
                text.setCharAt(place, sign);
                break;
            case 1:
                text.deleteCharAt(place);
                break;
            case 2:
                text.insert(place, sign);
                break;
            default:
                text.append(sign);
        }
        return text.toString();
    }

    private void feed() {
        int k = anyClass();
        int v = random.nextInt(3) == 0 ? 0 : any(0, 99);
        same("feed(" + k + ", " + v + ")", x.feed(k, v), y.feed(k, v));
    }

    private void set() {
        int what = any(0, 1);
        int v = what == 0 ? any(0, 40) : any(1, 10);
        same("set(" + what + ", " + v + ")", x.set(what, v), y.set(what, v));
    }

    private void ask() {
        int k = anyClass();
        int part = any(0, 1);
        int what = any(0, 7);
        int percent = any(0, 100);
        switch (random.nextInt(10)) {
            case 0:
                int told = random.nextBoolean() ? any(0, 2) : any(10, 14);
                same("size(" + k + ", " + told + ")", x.size(k, told), y.size(k, told));
                break;
            case 1:
            case 2:
                same("load(" + k + ", " + what + ")", x.load(k, what), y.load(k, what));
                break;
            case 3:
                same("all(" + what + ")", x.all(what), y.all(what));
                break;
            case 4:
                same("finer(" + k + ", " + part + ")", x.finer(k, part), y.finer(k, part));
                break;
            case 5:
                same("at(" + percent + ", " + part + ")", x.at(percent, part), y.at(percent, part));
                break;
            case 6:
                same("widest(" + k + ", " + percent + ")", x.widest(k, percent), y.widest(k, percent));
                break;
            case 7:
                same("stock(" + k + ")", x.stock(k), y.stock(k));
                break;
            case 8:
                same("missed(" + k + ")", x.missed(k), y.missed(k));
                break;
            default:
                same("stocks()", x.stocks(), y.stocks());
                same("count(" + what + ")", x.count(what), y.count(what));
        }
    }
}
