/** For each promise of the document: ordinary calls, the edges that it names, and wrong calls, with answers found by hand. */
public final class PromisesTest {
    private static final int NONE = -1, UNKNOWN = -1001, OUTSIDE = -1002, STATE = -1003, FULL = -1004;
    private static final int LOW = Integer.MIN_VALUE, HIGH = Integer.MAX_VALUE;

    private static final Checks CHECKS = new Checks();
    private static String promise = "";

    public static void main(String[] args) {
        newObject();
        letter();
        blank();
        fault();
        table();
        feed();
        set();
        sizes();
        passes();
        load();
        loadWithoutEnd();
        all();
        finer();
        at();
        widest();
        run();
        empty();
        stock();
        smallStock();
        missed();
        stocks();
        count();
        digest();
        refusalsChangeNothing();
        CHECKS.end("PromisesTest");
    }

    private static void due(String call, long got, long want) {
        CHECKS.due(promise + ": " + call, got, want);
    }

    private static void write(CrusherLoops x, String text) {
        x.blank();
        for (int i = 0; i < text.length(); i++) {
            x.letter(text.charAt(i));
        }
    }

    private static CrusherLoops withTable(String text) {
        CrusherLoops x = new CrusherLoops();
        write(x, text);
        due("table() of " + text, x.table(), text.split(";").length);
        return x;
    }

    /** LOADS are 10 and 10/9, LEAVES 9 and 1, by GAP 8 and GRADE 9. */
    private static CrusherLoops plain() {
        CrusherLoops x = withTable("0X;X");
        due("feed(0, 10)", x.feed(0, 10), 0);
        return x;
    }

    /** CLASS 0 is ENDLESS; of CLASS 1 LOAD is 10, LEAVES are 9. */
    private static CrusherLoops endless() {
        CrusherLoops x = withTable("X0;X");
        due("set(0, 2)", x.set(0, 2), 8);
        due("feed(0, 5)", x.feed(0, 5), 0);
        due("feed(1, 9)", x.feed(1, 9), 0);
        return x;
    }

    private static void fraction(String call, long above, long below, long wantAbove, long wantBelow) {
        due(call + ", above", above, wantAbove);
        due(call + ", below", below, wantBelow);
    }

    private static void loads(CrusherLoops x, int k, long... wants) {
        for (int what = 0; what < wants.length; what++) {
            due("load(" + k + ", " + what + ")", x.load(k, what), wants[what]);
        }
    }

    private static void alls(CrusherLoops x, long... wants) {
        for (int what = 0; what < wants.length; what++) {
            due("all(" + what + ")", x.all(what), wants[what]);
        }
    }

    private static void counts(CrusherLoops x, long... wants) {
        for (int what = 0; what < wants.length; what++) {
            due("count(" + what + ")", x.count(what), wants[what]);
        }
    }

    private static void newObject() {
        promise = "promise 1";
        CrusherLoops x = new CrusherLoops();
        counts(x, 0, 0, 8, 9, 0, 0, 0);
        due("feed(0, 1)", x.feed(0, 1), UNKNOWN);
        due("size(0, 0)", x.size(0, 0), UNKNOWN);
        due("load(0, 0)", x.load(0, 0), UNKNOWN);
        due("finer(0, 0)", x.finer(0, 0), UNKNOWN);
        due("widest(0, 50)", x.widest(0, 50), UNKNOWN);
        due("stock(0)", x.stock(0), UNKNOWN);
        due("missed(0)", x.missed(0), UNKNOWN);
        due("all(6)", x.all(6), STATE);
        due("at(50, 0)", x.at(50, 0), STATE);
        due("run(1)", x.run(1), STATE);
        due("empty()", x.empty(), STATE);
        due("table()", x.table(), STATE);
        due("stocks()", x.stocks(), 0);
        due("fault()", x.fault(), 0);
    }

    private static void letter() {
        promise = "promise 2";
        CrusherLoops x = new CrusherLoops();
        for (int code : new int[] {31, 127, 0, -1, LOW, HIGH, 65536 + 48}) {
            due("letter(" + code + ")", x.letter(code), OUTSIDE);
        }
        due("letter(32)", x.letter(32), 1);
        due("letter(126)", x.letter(126), 2);
        for (int many = 3; many <= 30; many++) {
            due("letter(88)", x.letter(88), many);
        }
        due("letter(88) above 30", x.letter(88), FULL);
        due("letter(31) above 30", x.letter(31), OUTSIDE);
        due("letter(127) above 30", x.letter(127), OUTSIDE);
        due("count(0)", x.count(0), 30);
    }

    private static void blank() {
        promise = "promise 3";
        CrusherLoops x = plain();
        due("blank() of none", x.blank(), 0);
        write(x, "4x;");
        due("blank() of three", x.blank(), 3);
        due("count(0)", x.count(0), 0);
        write(x, "012345678901234567890123456789");
        due("blank() of thirty", x.blank(), 30);
        due("letter(88) behind it", x.letter(88), 1);
        due("CLASSES stay", x.count(1), 2);
        due("FEED stays", x.size(0, 1), 10);
    }

    private static void faultOf(String text, int want) {
        CrusherLoops x = new CrusherLoops();
        write(x, text);
        due("fault() of " + text, x.fault(), want);
        due("fault() again of " + text, x.fault(), want);
        due("count(0) of " + text, x.count(0), text.length());
    }

    private static void fault() {
        promise = "promise 4";
        String[] whole = {"", "5", "55", "X", "X0", "00", "0000", "0000X", "X0000", "22222", "55;", "550;", "22222;",
            "55;X", "0X;X", "X0;X", "136;28;X", "136;", "136;0X", "136;2", "12340;12", "22222;3331;145;55;X",
            "X0000;X000;X00;X0;X"};
        for (String text : whole) {
            faultOf(text, text.length());
        }
        faultOf(";", 0);
        faultOf("x", 0);
        faultOf("/", 0);
        faultOf(":", 0);
        faultOf(" 55", 0);
        faultOf("5;", 1);
        faultOf("X;", 1);
        faultOf("54;", 2);
        faultOf("56", 1);
        faultOf("X1", 1);
        faultOf("5X", 1);
        faultOf("22221", 4);
        faultOf("00000", 4);
        faultOf("22223", 4);
        faultOf("222220", 5);
        faultOf("550", 3);
        faultOf("55;9", 3);
        faultOf("55;0", 3);
        faultOf("55;;", 3);
        faultOf("55;X;", 4);
        faultOf("55;X0", 4);
        faultOf("55;XX", 4);
        faultOf("136;27;X", 5);
        faultOf("136;29;X", 5);
        faultOf("136;X;", 5);
        faultOf("136;280;", 6);
        faultOf("136;28;9", 7);
        faultOf("136;28;X;X", 8);
        faultOf("55;Xzz;?", 4);
        CrusherLoops x = plain();
        write(x, "55;9");
        due("fault()", x.fault(), 3);
        due("TENTHS stay", x.size(0, 11), 10);
    }

    private static void notATable(String text) {
        CrusherLoops x = plain();
        x.run(2);
        write(x, text);
        due("table() of " + text, x.table(), STATE);
        counts(x, text.length(), 2, 8, 9, 2, 2, 1);
        due("FEED stays", x.size(0, 1), 10);
        due("TENTHS stay", x.size(0, 11), 10);
        due("fault() ahead of a letter", x.fault(), fault(text));
    }

    private static int fault(String text) {
        CrusherLoops x = new CrusherLoops();
        write(x, text);
        return x.fault();
    }

    private static void table() {
        promise = "promise 5";
        for (String text : new String[] {"", "5", "55", "55;", "55;9", "55;X;", "55;X ", "0X;x", "136;28;", "136;28"}) {
            notATable(text);
        }
        CrusherLoops x = plain();
        x.set(0, 11);
        x.set(1, 7);
        x.run(3);
        write(x, "136;28;X");
        due("table()", x.table(), 3);
        counts(x, 0, 3, 11, 7, 0, 3, 2);
        for (int k = 0; k < 3; k++) {
            due("FEED " + k, x.size(k, 1), 0);
            due("STOCK " + k, x.stock(k), 0);
        }
        due("TENTHS", x.size(0, 12), 6);
        due("table() of an empty page", x.table(), STATE);
        write(x, "46;X");
        due("table() of fewer", x.table(), 2);
        due("size(2, 0)", x.size(2, 0), UNKNOWN);
        due("size(0, 12)", x.size(0, 12), NONE);
        due("size(0, 0)", x.size(0, 0), 4);
        for (String text : new String[] {"55;X", "136;28;X", "1234;226;37;X", "22222;3331;145;55;X"}) {
            withTable(text);
        }
    }

    private static void feed() {
        promise = "promise 6";
        CrusherLoops x = withTable("136;28;X");
        due("feed(2, 99)", x.feed(2, 99), 0);
        due("feed(2, 0)", x.feed(2, 0), 99);
        due("feed(2, 7)", x.feed(2, 7), 0);
        due("feed(0, 1)", x.feed(0, 1), 0);
        due("feed(2, 100)", x.feed(2, 100), OUTSIDE);
        due("feed(2, -1)", x.feed(2, -1), OUTSIDE);
        due("feed(3, 1)", x.feed(3, 1), UNKNOWN);
        due("feed(-1, 1)", x.feed(-1, 1), UNKNOWN);
        due("feed(3, 100)", x.feed(3, 100), UNKNOWN);
        due("feed(LOW, LOW)", x.feed(LOW, LOW), UNKNOWN);
        due("size(2, 1)", x.size(2, 1), 7);
        due("size(1, 1)", x.size(1, 1), 0);
        due("size(0, 1)", x.size(0, 1), 1);
    }

    private static void set() {
        promise = "promise 7";
        CrusherLoops x = new CrusherLoops();
        due("set(0, 40)", x.set(0, 40), 8);
        due("set(0, 0)", x.set(0, 0), 40);
        due("set(0, 3)", x.set(0, 3), 0);
        due("set(1, 1)", x.set(1, 1), 9);
        due("set(1, 10)", x.set(1, 10), 1);
        due("set(1, 11)", x.set(1, 11), OUTSIDE);
        due("set(1, 0)", x.set(1, 0), OUTSIDE);
        due("set(0, 41)", x.set(0, 41), OUTSIDE);
        due("set(0, -1)", x.set(0, -1), OUTSIDE);
        due("set(2, 5)", x.set(2, 5), OUTSIDE);
        due("set(-1, 5)", x.set(-1, 5), OUTSIDE);
        due("set(HIGH, HIGH)", x.set(HIGH, HIGH), OUTSIDE);
        due("GAP", x.count(2), 3);
        due("GRADE", x.count(3), 10);
    }

    private static void sizes() {
        promise = "promise 8";
        CrusherLoops x = withTable("12304;2260;226;37;X");
        int[] sizes = {32, 16, 8, 4, 2};
        int[][] tenths = {{1, 2, 3, 0, 4}, {0, 2, 2, 6, 0}, {0, 0, 2, 2, 6}, {0, 0, 0, 3, 7}, {0, 0, 0, 0, 10}};
        for (int k = 0; k < 5; k++) {
            due("size(" + k + ", 0)", x.size(k, 0), sizes[k]);
            for (int as = 0; as < 5; as++) {
                due("size(" + k + ", 1" + as + ")", x.size(k, 10 + as), tenths[k][as]);
            }
        }
        x = withTable("X00;0X;X");
        due("size(0, 10)", x.size(0, 10), 10);
        due("size(1, 12)", x.size(1, 12), 10);
        due("size(2, 10)", x.size(2, 10), 0);
        due("size(2, 13)", x.size(2, 13), NONE);
        due("size(2, 14)", x.size(2, 14), NONE);
        for (int what : new int[] {-1, 3, 9, 15, LOW, LOW + 12, HIGH}) {
            due("size(1, " + what + ")", x.size(1, what), OUTSIDE);
        }
        for (int k : new int[] {-1, 3, LOW, HIGH}) {
            due("size(" + k + ", 0)", x.size(k, 0), UNKNOWN);
            due("size(" + k + ", 3)", x.size(k, 3), UNKNOWN);
        }
    }

    private static void passesBy(CrusherLoops x, int gap, int grade, int... wants) {
        x.set(0, gap);
        x.set(1, grade);
        for (int k = 0; k < wants.length; k++) {
            due("PASS of " + k + " by GAP " + gap + ", GRADE " + grade, x.size(k, 2), wants[k]);
        }
    }

    private static void passes() {
        promise = "promise 8, PASS";
        CrusherLoops x = withTable("22222;3331;145;55;X");
        passesBy(x, 0, 10, 0, 0, 0, 0, 0);
        passesBy(x, 1, 10, 0, 0, 0, 0, 0);
        passesBy(x, 2, 10, 0, 0, 0, 0, 10);
        passesBy(x, 3, 10, 0, 0, 0, 5, 10);
        passesBy(x, 4, 7, 0, 0, 0, 7, 7);
        passesBy(x, 8, 9, 0, 0, 9, 9, 9);
        passesBy(x, 9, 9, 0, 1, 9, 9, 9);
        passesBy(x, 15, 9, 0, 7, 9, 9, 9);
        passesBy(x, 17, 9, 0, 9, 9, 9, 9);
        passesBy(x, 20, 10, 2, 10, 10, 10, 10);
        passesBy(x, 31, 10, 9, 10, 10, 10, 10);
        passesBy(x, 32, 1, 1, 1, 1, 1, 1);
        passesBy(x, 31, 1, 0, 1, 1, 1, 1);
        passesBy(x, 40, 10, 10, 10, 10, 10, 10);
    }

    private static void load() {
        promise = "promise 9";
        CrusherLoops x = plain();
        loads(x, 0, 10, 1, 9, 1, 1, 1);
        loads(x, 1, 10, 9, 1, 1, 1, 9);
        x.feed(0, 0);
        loads(x, 0, 0, 1, 0, 1, 0, 1);
        loads(x, 1, 0, 1, 0, 1, 0, 1);
        x.feed(1, 9);
        loads(x, 0, 0, 1, 0, 1, 0, 1);
        loads(x, 1, 10, 1, 9, 1, 1, 1);
        x = withTable("46;X");
        x.feed(0, 50);
        x.feed(1, 7);
        loads(x, 0, 625, 12, 375, 8, 125, 24);
        loads(x, 1, 45, 4, 81, 8, 9, 8);
        x.set(1, 10);
        loads(x, 0, 50, 1, 50, 1, 0, 1);
        loads(x, 1, 7, 1, 7, 1, 0, 1);
        for (int what : new int[] {-1, 6, LOW, HIGH}) {
            due("load(0, " + what + ")", x.load(0, what), OUTSIDE);
        }
        for (int k : new int[] {-1, 2, LOW, HIGH}) {
            due("load(" + k + ", 0)", x.load(k, 0), UNKNOWN);
            due("load(" + k + ", 6)", x.load(k, 6), UNKNOWN);
        }
    }

    private static void loadWithoutEnd() {
        promise = "promise 9, ENDLESS";
        CrusherLoops x = endless();
        loads(x, 0, NONE, NONE, 0, 1, NONE, NONE);
        loads(x, 1, 10, 1, 9, 1, 1, 1);
        x.feed(0, 0);
        loads(x, 0, 0, 1, 0, 1, 0, 1);
        x = withTable("0X;X");
        x.set(0, 1);
        x.feed(0, 5);
        loads(x, 0, 5, 1, 0, 1, 5, 1);
        loads(x, 1, NONE, NONE, 0, 1, NONE, NONE);
        x.feed(0, 0);
        loads(x, 1, 0, 1, 0, 1, 0, 1);
        x = withTable("91;X");
        x.set(0, 2);
        x.feed(0, 5);
        loads(x, 0, 50, 1, 0, 1, 50, 1);
        loads(x, 1, 50, 9, 5, 1, 5, 9);
    }

    private static void all() {
        promise = "promise 10";
        CrusherLoops x = plain();
        alls(x, 100, 9, 10, 1, 10, 9, 10, 0);
        x.feed(1, 99);
        due("all(6)", x.all(6), 109);
        x.feed(0, 0);
        x.feed(1, 0);
        alls(x, 0, 1, 0, 1, 0, 1, 0, 0);
        x = endless();
        alls(x, NONE, NONE, 9, 1, NONE, NONE, 14, 1);
        x.set(0, 1);
        alls(x, NONE, NONE, 0, 1, NONE, NONE, 14, 3);
        x.feed(0, 0);
        alls(x, NONE, NONE, 0, 1, NONE, NONE, 9, 2);
        for (int what : new int[] {-1, 8, LOW, HIGH}) {
            due("all(" + what + ")", x.all(what), OUTSIDE);
            due("all(" + what + ") of no TABLE", new CrusherLoops().all(what), OUTSIDE);
        }
        due("all(7) of no TABLE", new CrusherLoops().all(7), STATE);
    }

    private static void finer() {
        promise = "promise 11";
        CrusherLoops x = plain();
        fraction("finer(0)", x.finer(0, 0), x.finer(0, 1), 100, 1);
        fraction("finer(1)", x.finer(1, 0), x.finer(1, 1), 10, 1);
        x.feed(1, 2);
        fraction("finer(1) of 3 in 12", x.finer(1, 0), x.finer(1, 1), 25, 1);
        x.feed(1, 4);
        fraction("finer(1) of 5 in 14", x.finer(1, 0), x.finer(1, 1), 250, 7);
        x.feed(1, 0);
        x.set(1, 10);
        fraction("finer(1) of none", x.finer(1, 0), x.finer(1, 1), 0, 1);
        for (int part : new int[] {-1, 2, LOW, HIGH}) {
            due("finer(1, " + part + ")", x.finer(1, part), OUTSIDE);
            due("finer(2, " + part + ")", x.finer(2, part), UNKNOWN);
        }
        due("finer(-1, 0)", x.finer(-1, 0), UNKNOWN);
        x.feed(0, 0);
        due("finer(0, 0) of nothing", x.finer(0, 0), STATE);
        due("finer(0, 1) of nothing", x.finer(0, 1), STATE);
        due("finer(0, 2) of nothing", x.finer(0, 2), OUTSIDE);
        due("finer(2, 0) of nothing", x.finer(2, 0), UNKNOWN);
        x = endless();
        fraction("finer(1) by an ENDLESS one", x.finer(1, 0), x.finer(1, 1), 100, 1);
    }

    private static void atOf(CrusherLoops x, int percent, long above, long below) {
        fraction("at(" + percent + ")", x.at(percent, 0), x.at(percent, 1), above, below);
    }

    private static void at() {
        promise = "promise 12";
        CrusherLoops x = plain();
        atOf(x, 1, 1, 5);
        atOf(x, 5, 1, 1);
        atOf(x, 10, 2, 1);
        atOf(x, 11, 91, 45);
        atOf(x, 50, 26, 9);
        atOf(x, 100, 4, 1);
        x.set(1, 10);
        atOf(x, 50, 3, 1);
        x = withTable("136;28;X");
        x.set(1, 10);
        x.feed(0, 10);
        x.feed(2, 10);
        atOf(x, 50, 2, 1);
        atOf(x, 51, 102, 25);
        atOf(x, 100, 8, 1);
        x.feed(0, 0);
        atOf(x, 100, 2, 1);
        x.feed(2, 0);
        due("at(50, 0) of nothing", x.at(50, 0), STATE);
        x.feed(1, 3);
        atOf(x, 50, 3, 1);
        for (int percent : new int[] {0, 101, -1, LOW, HIGH}) {
            due("at(" + percent + ", 0)", x.at(percent, 0), OUTSIDE);
            due("at(" + percent + ", 0) of no TABLE", new CrusherLoops().at(percent, 0), OUTSIDE);
        }
        for (int part : new int[] {-1, 2, LOW, HIGH}) {
            due("at(50, " + part + ")", x.at(50, part), OUTSIDE);
            due("at(50, " + part + ") of no TABLE", new CrusherLoops().at(50, part), OUTSIDE);
        }
        due("at(50, 1) of no TABLE", new CrusherLoops().at(50, 1), STATE);
        atOf(endless(), 50, 1, 1);
    }

    private static void widest() {
        promise = "promise 13";
        CrusherLoops x = plain();
        due("widest(0, 100)", x.widest(0, 100), 40);
        due("widest(1, 0)", x.widest(1, 0), 40);
        due("widest(1, 10)", x.widest(1, 10), 40);
        due("widest(1, 11)", x.widest(1, 11), 3);
        due("widest(1, 60)", x.widest(1, 60), 3);
        due("widest(1, 61)", x.widest(1, 61), 2);
        due("widest(1, 100)", x.widest(1, 100), 2);
        due("GAP stays", x.count(2), 8);
        fraction("load(1) behind it", x.load(1, 0), x.load(1, 1), 10, 9);
        due("widest(1, 101)", x.widest(1, 101), OUTSIDE);
        due("widest(1, -1)", x.widest(1, -1), OUTSIDE);
        due("widest(2, 50)", x.widest(2, 50), UNKNOWN);
        due("widest(-1, 101)", x.widest(-1, 101), UNKNOWN);
        x.feed(0, 0);
        due("widest(0, 0) of nothing", x.widest(0, 0), NONE);
        x = withTable("X0;X");
        x.feed(0, 5);
        due("widest(1, 0), all of it coarse", x.widest(1, 0), 40);
        due("widest(1, 1), all of it coarse or ENDLESS", x.widest(1, 1), NONE);
        x.feed(1, 5);
        due("widest(1, 50)", x.widest(1, 50), 40);
        due("widest(1, 51), the finer ones ENDLESS", x.widest(1, 51), NONE);
        x.feed(0, 0);
        due("widest(1, 100)", x.widest(1, 100), 40);
    }

    private static void run() {
        promise = "promise 14";
        CrusherLoops x = plain();
        due("run(1)", x.run(1), 1);
        due("run(50)", x.run(50), 51);
        for (int n : new int[] {0, 51, -1, LOW, HIGH}) {
            due("run(" + n + ")", x.run(n), OUTSIDE);
            due("run(" + n + ") of no TABLE", new CrusherLoops().run(n), OUTSIDE);
        }
        due("run(50) of no TABLE", new CrusherLoops().run(50), STATE);
        for (int ticks = 101; ticks <= 4951; ticks += 50) {
            due("run(50)", x.run(50), ticks);
        }
        due("run(50) to 5001", x.run(50), STATE);
        due("run(49) to 5000", x.run(49), 5000);
        due("run(1) to 5001", x.run(1), STATE);
        due("run(51) behind 5000", x.run(51), OUTSIDE);
        counts(x, 0, 2, 8, 9, 5000, 5000, 1);
        due("empty()", x.empty(), 5000);
        due("run(50) of it", x.run(50), 50);
        counts(x, 0, 2, 8, 9, 50, 5050, 1);
    }

    private static void empty() {
        promise = "promise 15";
        due("empty() of no TABLE", new CrusherLoops().empty(), STATE);
        CrusherLoops x = plain();
        due("empty() of none", x.empty(), 0);
        x.run(7);
        due("empty()", x.empty(), 7);
        due("empty() again", x.empty(), 0);
        due("stock(0)", x.stock(0), 0);
        due("stock(1)", x.stock(1), 0);
        counts(x, 0, 2, 8, 9, 0, 7, 1);
        due("FEED stays", x.size(0, 1), 10);
        due("run(2)", x.run(2), 2);
        due("stock(1)", x.stock(1), Float.floatToRawIntBits(1f));
    }

    private static void stock() {
        promise = "promise 16";
        CrusherLoops x = plain();
        due("stock(0)", x.stock(0), 0);
        x.run(1);
        due("stock(0)", x.stock(0), 0x41200000);
        due("stock(1)", x.stock(1), 0);
        x.run(1);
        due("stock(0)", x.stock(0), 0x41200000);
        due("stock(1)", x.stock(1), 0x3f800000);
        x.run(1);
        due("stock(1)", x.stock(1), 0x3f8ccccd);
        x.feed(1, 99);
        x.set(1, 1);
        x.run(1);
        float stock = 99f + 10f * (9f / 10f) * (10f / 10f);
        stock = stock + 1.1f * (9f / 10f) * (10f / 10f);
        due("stock(1) by another FEED and GRADE", x.stock(1), Float.floatToRawIntBits(stock));
        for (int k : new int[] {-1, 2, LOW, HIGH}) {
            due("stock(" + k + ")", x.stock(k), UNKNOWN);
        }
        x = endless();
        for (int many = 1; many <= 40; many++) {
            x.run(50);
            due("stock(0) without an end", x.stock(0), Float.floatToRawIntBits(many * 250f));
        }
    }

    /** A STOCK that nothing is brought to any more becomes smaller than what a float holds with all its figures, then 0. */
    private static void smallStock() {
        promise = "promise 16, small";
        CrusherLoops x = withTable("37;X");
        x.feed(0, 77);
        x.run(1);
        x.feed(0, 0);
        float coarse = 77f;
        for (int tick = 1; tick <= 40; tick++) {
            coarse = 0f + coarse * (1f / 10f) * (3f / 10f);
            x.run(1);
            due("stock(0)", x.stock(0), Float.floatToRawIntBits(coarse));
            due("missed(0)", x.missed(0), Double.doubleToRawLongBits((double) coarse));
        }
        due("stock(0) in the end", x.stock(0), 0);
        slowlySmallStock();
    }

    /** Nine tenths stay in each TICK, so that the STOCK comes by every power of two on its way down. */
    private static void slowlySmallStock() {
        CrusherLoops x = withTable("91;X");
        x.set(0, 2);
        x.feed(0, 77);
        x.run(1);
        x.feed(0, 0);
        float coarse = 77f;
        for (int call = 0; call < 150; call++) {
            int n = call < 17 || call >= 145 ? 50 : 1;
            for (int tick = 0; tick < n; tick++) {
                coarse = 0f + coarse * (10f / 10f) * (9f / 10f);
            }
            x.run(n);
            due("stock(0), slowly", x.stock(0), Float.floatToRawIntBits(coarse));
        }
        due("stock(0), slowly, in the end", x.stock(0) > 0 && x.stock(0) < 10 ? 1 : 0, 1);
    }

    private static void missed() {
        promise = "promise 17";
        CrusherLoops x = plain();
        due("missed(0)", x.missed(0), Double.doubleToRawLongBits(10.0));
        due("missed(1)", x.missed(1), Double.doubleToRawLongBits(10.0 / 9.0));
        x.run(3);
        due("missed(0)", x.missed(0), 0);
        due("missed(1)", x.missed(1), Double.doubleToRawLongBits(10.0 / 9.0 - (double) 1.1f));
        x.feed(0, 0);
        due("missed(0) from above", x.missed(0), Double.doubleToRawLongBits(10.0));
        for (int k : new int[] {-1, 2, LOW, HIGH}) {
            due("missed(" + k + ")", x.missed(k), UNKNOWN);
        }
        x = endless();
        due("missed(0) of an ENDLESS one", x.missed(0), NONE);
        due("missed(1)", x.missed(1), Double.doubleToRawLongBits(10.0));
        x.run(4);
        x.feed(0, 0);
        due("missed(0) of one that was ENDLESS", x.missed(0), Double.doubleToRawLongBits(20.0));
    }

    private static void stocks() {
        promise = "promise 18";
        due("stocks() of no TABLE", new CrusherLoops().stocks(), 0);
        CrusherLoops x = plain();
        due("stocks() at first", x.stocks(), 0);
        x.run(1);
        due("stocks()", x.stocks(), Double.doubleToRawLongBits(10.0));
        x.run(2);
        due("stocks()", x.stocks(), Double.doubleToRawLongBits(10.0 + (double) 1.1f));
        x = withTable("1234;226;37;X");
        x.feed(0, 97);
        x.feed(1, 13);
        x.feed(3, 1);
        for (int many = 1; many <= 20; many++) {
            x.run(many);
            double sum = 0;
            for (int k = 0; k < 4; k++) {
                sum += (double) Float.intBitsToFloat(x.stock(k));
            }
            due("stocks()", x.stocks(), Double.doubleToRawLongBits(sum));
        }
    }

    private static void count() {
        promise = "promise 19";
        CrusherLoops x = withTable("136;28;X");
        write(x, "46;X ");
        x.set(0, 31);
        x.set(1, 4);
        x.run(6);
        counts(x, 5, 3, 31, 4, 6, 6, 1);
        write(x, "46;X");
        x.table();
        x.run(2);
        counts(x, 0, 2, 31, 4, 2, 8, 2);
        x.empty();
        counts(x, 0, 2, 31, 4, 0, 8, 2);
        for (int what : new int[] {-1, 7, LOW, HIGH}) {
            due("count(" + what + ")", x.count(what), OUTSIDE);
        }
    }

    private static long hash(long... numbers) {
        long h = 1693;
        for (long number : numbers) {
            h = 31 * h + number;
        }
        return h;
    }

    private static void digest() {
        promise = "promise 20";
        CrusherLoops x = new CrusherLoops();
        due("digest() of a new one", x.digest(), hash(0, 0, 0, 8, 9, 0, 0, 0));
        write(x, "a;~");
        due("digest() of a page", x.digest(), hash(0, 97, 59, 126, 3, 0, 8, 9, 0, 0, 0));
        write(x, "0X;X");
        x.table();
        due("digest() of what nothing leaves", x.digest(), hash(
                4, 0, 9, 0, 10, -1, -1, -1, 0, 1, 0, 1, 0, 1, 0, 0,
                2, 0, 9, 0, 10, -1, -1, -1, 0, 1, 0, 1, 0, 1, 0, 0,
                0, 1, 0, 1, 0, 1, 0, 0, -1, -1, 0, 0, 2, 8, 9, 0, 0, 1));
        x.feed(0, 10);
        long missed = Double.doubleToRawLongBits(10.0 / 9.0 - 1.0);
        x.run(2);
        x.letter('5');
        due("digest() of what leaves", x.digest(), hash(
                4, 10, 9, 0, 10, -1, -1, -1, 10, 1, 9, 1, 1, 1, 0x41200000, 0,
                2, 0, 9, 0, 10, -1, -1, -1, 10, 9, 1, 1, 1, 9, 0x3f800000, missed,
                100, 9, 10, 1, 10, 9, 10, 0, 100, 1, 10, 1, 20, 9, 26, 9, 32, 9, 4, 1, 40, 3,
                Double.doubleToRawLongBits(11.0), 53, 1, 2, 8, 9, 2, 2, 1));
        x = endless();
        due("digest() without an end", x.digest(), hash(
                4, 5, 0, 10, 0, -1, -1, -1, -1, -1, 0, 1, -1, -1, 0, -1,
                2, 9, 9, 0, 10, -1, -1, -1, 10, 1, 9, 1, 1, 1, 0, Double.doubleToRawLongBits(10.0),
                -1, -1, 9, 1, -1, -1, 14, 1, 100, 1, 100, 1, 2, 5, 1, 1, 8, 5, 2, 1, 40, 40,
                0, 0, 2, 2, 9, 0, 0, 1));
    }

    private static void refusalsChangeNothing() {
        promise = "terms, refusals";
        CrusherLoops x = plain();
        x.run(5);
        write(x, "0000000000000000000000000000zz");
        long before = x.digest();
        x.letter(48);
        x.letter(31);
        x.table();
        x.feed(2, 1);
        x.feed(0, 100);
        x.set(0, 41);
        x.set(1, 0);
        x.set(2, 1);
        x.size(2, 0);
        x.load(0, 6);
        x.all(8);
        x.finer(0, 2);
        x.at(0, 0);
        x.widest(0, 101);
        x.run(0);
        x.run(51);
        x.stock(2);
        x.missed(2);
        x.count(7);
        due("digest()", x.digest(), before);
    }
}
