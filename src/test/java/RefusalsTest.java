import java.util.function.Supplier;
import java.util.function.ToLongFunction;

/**
 * How refusals go, told as the document tells it: UNKNOWN, OUTSIDE, STATE, FULL, of several the first as told by each
 * call, and they change nothing. Every call is made with numbers at and next to its edges, each in its own object, in
 * each of the states that a call can find; what asks changes nothing either.
 */
public final class RefusalsTest {
    private static final int UNKNOWN = -1001, OUTSIDE = -1002, STATE = -1003, FULL = -1004;
    private static final int LOW = Integer.MIN_VALUE, HIGH = Integer.MAX_VALUE;
    /** Stands for: not refused. */
    private static final int FINE = 0;
    private static final int[] CODES = {LOW, LOW + 48, -1, 0, 31, 32, 48, 88, 126, 127, 65536 + 48, HIGH};
    private static final int[] NUMBERS = {LOW, LOW + 1, -1, 0, 1, 2, 4, 5, 6, HIGH};
    private static final int[] FEEDS = {LOW, -1, 0, 1, 99, 100, HIGH};
    private static final int[] SETTINGS = {LOW, -1, 0, 1, 10, 11, 40, 41, HIGH};
    private static final int[] ASKED = {LOW, LOW + 10, -1, 0, 1, 2, 3, 5, 6, 7, 8, 9, 10, 14, 15, HIGH};
    private static final int[] PERCENTS = {LOW, -1, 0, 1, 50, 100, 101, HIGH};
    private static final int[] MANY_TICKS = {LOW, -1, 0, 1, 24, 25, 26, 49, 50, 51, HIGH};

    private static final Checks CHECKS = new Checks();

    /** What a call finds. */
    private record Found(String name, int classes, boolean leaves, int ticks, int letters, boolean isTable,
            Supplier<CrusherLoops> made) {
        boolean hasClass(int k) {
            return k >= 0 && k < classes;
        }
    }

    public static void main(String[] args) {
        Found[] all = {
            new Found("no TABLE", 0, false, 0, 0, false, () -> made("", 8, 9, "")),
            new Found("no TABLE, a full PAGE", 0, false, 0, 30, false, () -> made("", 40, 1, "55;X".repeat(7) + "55")),
            new Found("no TABLE, a PAGE that is one", 0, false, 0, 4, true, () -> made("", 0, 10, "55;X")),
            new Found("no FEED", 2, false, 0, 29, false, () -> made("46;X", 8, 9, "0".repeat(29))),
            new Found("nothing passes", 3, false, 7, 1, false, () -> turned(made("550;91;X", 0, 10, "5", 1, 2, 3), 7)),
            new Found("one is ENDLESS", 2, true, 3, 0, false, () -> turned(made("X0;X", 2, 10, "", 5, 9), 3)),
            new Found("only an ENDLESS one", 2, false, 1, 3, false, () -> turned(made("X0;X", 2, 9, "0X;", 5), 1)),
            new Found("all five, a PAGE that is one", 5, true, 50, 19, true,
                () -> turned(made("22222;3331;145;55;X", 31, 7, "X0000;X000;X00;X0;X", 99, 98, 97, 96, 95), 50)),
            new Found("most TICKS but 25", 3, true, 4975, 8, true,
                () -> turned(made("136;28;X", 8, 9, "136;28;X", 10), 4975)),
            new Found("most TICKS, a full PAGE", 4, true, 5000, 30, false,
                () -> turned(made("1234;226;37;X", 40, 10, "X".repeat(30), 0, 0, 0, 1), 5000))};
        for (Found found : all) {
            texts(found);
            told(found);
            asked(found);
            forEver(found);
            tickByTick(found);
        }
        CHECKS.end("RefusalsTest");
    }

    private static CrusherLoops made(String table, int gap, int grade, String page, int... feeds) {
        CrusherLoops x = new CrusherLoops();
        write(x, table);
        if (!table.isEmpty()) {
            x.table();
        }
        x.set(0, gap);
        x.set(1, grade);
        for (int k = 0; k < feeds.length; k++) {
            x.feed(k, feeds[k]);
        }
        write(x, page);
        return x;
    }

    private static CrusherLoops turned(CrusherLoops x, int ticks) {
        for (int done = 0; done < ticks; done += 50) {
            x.run(Math.min(50, ticks - done));
        }
        return x;
    }

    private static void write(CrusherLoops x, String text) {
        for (char sign : text.toCharArray()) {
            x.letter(sign);
        }
    }

    /** A call that is refused as told, or that is not refused at all. */
    private static void changes(Found found, String call, int refusal, ToLongFunction<CrusherLoops> made) {
        CrusherLoops x = found.made().get();
        long before = x.digest();
        long answer = made.applyAsLong(x);
        if (refusal == FINE) {
            boolean refused = answer == UNKNOWN || answer == OUTSIDE || answer == STATE || answer == FULL;
            CHECKS.due(found.name() + ": " + call + " is refused: " + answer, refused ? 1 : 0, 0);
            return;
        }
        CHECKS.due(found.name() + ": " + call, answer, refusal);
        CHECKS.due(found.name() + ": digest() behind " + call, x.digest(), before);
    }

    /** A call that changes nothing, refused or not. */
    private static void asks(Found found, String call, int refusal, ToLongFunction<CrusherLoops> made) {
        changes(found, call, refusal, made);
        CrusherLoops x = found.made().get();
        long before = x.digest();
        long answer = made.applyAsLong(x);
        CHECKS.due(found.name() + ": digest() behind " + call, x.digest(), before);
        CHECKS.due(found.name() + ": again " + call, made.applyAsLong(x), answer);
    }

    private static void texts(Found found) {
        for (int code : CODES) {
            int refusal = code < 32 || code > 126 ? OUTSIDE : found.letters() == 30 ? FULL : FINE;
            changes(found, "letter(" + code + ")", refusal, x -> x.letter(code));
        }
        changes(found, "blank()", FINE, CrusherLoops::blank);
        asks(found, "fault()", FINE, CrusherLoops::fault);
        changes(found, "table()", found.isTable() ? FINE : STATE, CrusherLoops::table);
        CrusherLoops x = found.made().get();
        CHECKS.due(found.name() + ": count(0)", x.count(0), found.letters());
        CHECKS.due(found.name() + ": count(1)", x.count(1), found.classes());
        CHECKS.due(found.name() + ": count(4)", x.count(4), found.ticks());
    }

    private static void told(Found found) {
        for (int k : NUMBERS) {
            for (int v : FEEDS) {
                int refusal = !found.hasClass(k) ? UNKNOWN : v < 0 || v > 99 ? OUTSIDE : FINE;
                changes(found, "feed(" + k + ", " + v + ")", refusal, x -> x.feed(k, v));
            }
            for (int v : SETTINGS) {
                boolean fine = k == 0 && v >= 0 && v <= 40 || k == 1 && v >= 1 && v <= 10;
                changes(found, "set(" + k + ", " + v + ")", fine ? FINE : OUTSIDE, x -> x.set(k, v));
            }
        }
    }

    private static void asked(Found found) {
        for (int what : ASKED) {
            for (int k : NUMBERS) {
                boolean named = what >= 0 && what <= 2 || what >= 10 && what <= 14;
                int refusal = !found.hasClass(k) ? UNKNOWN : named ? FINE : OUTSIDE;
                asks(found, "size(" + k + ", " + what + ")", refusal, x -> x.size(k, what));
                refusal = !found.hasClass(k) ? UNKNOWN : what >= 0 && what <= 5 ? FINE : OUTSIDE;
                asks(found, "load(" + k + ", " + what + ")", refusal, x -> x.load(k, what));
            }
            int refusal = what < 0 || what > 7 ? OUTSIDE : found.classes() == 0 ? STATE : FINE;
            asks(found, "all(" + what + ")", refusal, x -> x.all(what));
            refusal = what < 0 || what > 6 ? OUTSIDE : FINE;
            asks(found, "count(" + what + ")", refusal, x -> x.count(what));
        }
    }

    private static void forEver(Found found) {
        for (int k : NUMBERS) {
            for (int part : NUMBERS) {
                boolean named = part == 0 || part == 1;
                int refusal = !found.hasClass(k) ? UNKNOWN : !named ? OUTSIDE : found.leaves() ? FINE : STATE;
                asks(found, "finer(" + k + ", " + part + ")", refusal, x -> x.finer(k, part));
            }
            for (int percent : PERCENTS) {
                boolean named = k == 0 || k == 1;
                int refusal = percent < 1 || percent > 100 || !named ? OUTSIDE : found.leaves() ? FINE : STATE;
                asks(found, "at(" + percent + ", " + k + ")", refusal, x -> x.at(percent, k));
                refusal = !found.hasClass(k) ? UNKNOWN : percent < 0 || percent > 100 ? OUTSIDE : FINE;
                asks(found, "widest(" + k + ", " + percent + ")", refusal, x -> x.widest(k, percent));
            }
        }
    }

    private static void tickByTick(Found found) {
        for (int n : MANY_TICKS) {
            boolean turns = found.classes() > 0 && (n < 1 || n <= 5000 - found.ticks());
            int refusal = n < 1 || n > 50 ? OUTSIDE : turns ? FINE : STATE;
            changes(found, "run(" + n + ")", refusal, x -> x.run(n));
        }
        changes(found, "empty()", found.classes() == 0 ? STATE : FINE, CrusherLoops::empty);
        for (int k : NUMBERS) {
            int refusal = found.hasClass(k) ? FINE : UNKNOWN;
            asks(found, "stock(" + k + ")", refusal, x -> x.stock(k));
            asks(found, "missed(" + k + ")", refusal, x -> x.missed(k));
        }
        asks(found, "stocks()", FINE, CrusherLoops::stocks);
        asks(found, "digest()", FINE, CrusherLoops::digest);
    }
}
