import java.math.BigInteger;
import java.util.ArrayList;
import java.util.List;

/**
 * Each sentence of the document that names an edge has a method of its own here, told by that sentence: the last value
 * that is allowed and the first that is not, what is empty or full, and what comes out of 0. How refusals go is in
 * RefusalsTest.
 */
public final class EdgesTest {
    private static final int NONE = -1, UNKNOWN = -1001, OUTSIDE = -1002, STATE = -1003, FULL = -1004;
    private static final int LOW = Integer.MIN_VALUE, HIGH = Integer.MAX_VALUE;
    private static final String FIVE = "22222;3331;145;55;X";
    private static final String THIRTY = "012345678901234567890123456789";

    private static final Checks CHECKS = new Checks();
    private static String sentence = "";

    public static void main(String[] args) {
        use();
        texts();
        told();
        forEver();
        tickByTick();
        digests();
        CHECKS.end("EdgesTest");
    }

    private static void use() {
        usedFor512Calls();
        noTableInANewObject();
    }

    private static void texts() {
        twoToFiveClasses();
        asManySignsAsClasses();
        figuresOrX();
        tenTogether();
        beyondTen();
        notToTenAnyMore();
        noTableHasItThere();
        behindThoseAhead();
        faultOfAnEmptyPage();
        faultOfAFullPage();
        codes();
        aboveThirty();
        blankPage();
        readAsATable();
        noTableToRead();
        anotherOneIsGone();
    }

    private static void told() {
        sizesByClasses();
        feedEnds();
        gapEnds();
        gradeEnds();
        passWhereSizeIsGap();
        passWhereHalfIsGap();
        passRoundedDown();
        sizeAsked();
        tenthsAsked();
        countAsked();
    }

    private static void forEver() {
        endless();
        notEndless();
        endlessByACoarserOne();
        nothingComesToFinerOnes();
        nothingPasses();
        allPasses();
        lowestTerms();
        longestFractions();
        loadAsked();
        allAsked();
        finerEnds();
        atHoldsFromTo();
        thatMuchOrMore();
        noneLeavesIsNotMeant();
        atEnds();
        widestEnds();
        widestNone();
        widestAsAllElseIs();
    }

    private static void tickByTick() {
        ticksInACall();
        mostTicks();
        ticksSinceTheTable();
        emptied();
        stocksAtFirst();
        allAtOnce();
        eachAsAFloat();
        leastFloats();
        greatestFloats();
        missedFromBothSides();
        missedByNothing();
        stocksAddedUp();
    }

    private static void digests() {
        digestOfNoTable();
        digestOfAFullPage();
        digestByItsCalls();
        digestWraps();
    }

    private static void due(String call, long got, long want) {
        CHECKS.due(sentence + " " + call, got, want);
    }

    private static void fraction(String call, long above, long below, long wantAbove, long wantBelow) {
        due(call + ", above", above, wantAbove);
        due(call + ", below", below, wantBelow);
    }

    private static void write(CrusherLoops x, String text) {
        for (int i = 0; i < text.length(); i++) {
            due("letter(" + (int) text.charAt(i) + ")", x.letter(text.charAt(i)), x.count(0));
        }
    }

    private static CrusherLoops page(String text) {
        CrusherLoops x = new CrusherLoops();
        for (int i = 0; i < text.length(); i++) {
            due("letter(" + (int) text.charAt(i) + ") of " + text, x.letter(text.charAt(i)), i + 1);
        }
        return x;
    }

    private static void read(CrusherLoops x, String text) {
        x.blank();
        for (int i = 0; i < text.length(); i++) {
            x.letter(text.charAt(i));
        }
        due("table() of " + text, x.table(), text.indexOf(';'));
    }

    private static CrusherLoops withTable(String text, int gap, int grade) {
        CrusherLoops x = page(text);
        due("table() of " + text, x.table(), text.indexOf(';'));
        x.set(0, gap);
        x.set(1, grade);
        return x;
    }

    private static CrusherLoops withFeeds(String text, int gap, int grade, int... feeds) {
        CrusherLoops x = withTable(text, gap, grade);
        for (int k = 0; k < feeds.length; k++) {
            due("feed(" + k + ", " + feeds[k] + ")", x.feed(k, feeds[k]), 0);
        }
        return x;
    }

    private static void loads(CrusherLoops x, int k, long... wants) {
        for (int what = 0; what < wants.length; what++) {
            due("load(" + k + ", " + what + ")", x.load(k, what), wants[what]);
        }
    }

    private static void alls(CrusherLoops x, long... wants) {
        for (int what = 0; what < wants.length; what++) {
            due("all(" + what + ")", x.all(what), wants[what]);
        }
    }

    private static void counts(CrusherLoops x, long... wants) {
        for (int what = 0; what < wants.length; what++) {
            due("count(" + what + ")", x.count(what), wants[what]);
        }
    }

    private static void sizes(CrusherLoops x, int what, int... wants) {
        for (int k = 0; k < wants.length; k++) {
            due("size(" + k + ", " + what + ")", x.size(k, what), wants[k]);
        }
    }

    private static long bits(double value) {
        return Double.doubleToRawLongBits(value);
    }

    private static int bits(float value) {
        return Float.floatToRawIntBits(value);
    }

    // ---- use

    private static void usedFor512Calls() {
        sentence = "An object is used for at most 512 calls after it has been made:";
        CrusherLoops few = withFeeds(FIVE, 31, 7, 99, 98, 97, 96, 95);
        few.run(50);
        CrusherLoops many = new CrusherLoops();
        int calls = 0;
        for (char sign : FIVE.toCharArray()) {
            many.letter(sign);
            calls++;
        }
        many.table();
        many.set(0, 31);
        many.set(1, 7);
        calls += 3;
        for (int k = 0; k < 5; k++) {
            many.feed(k, 99 - k);
            calls++;
        }
        for (; calls < 509; calls++) {
            many.digest();
        }
        due("run(50), call 510", many.run(50), 50);
        due("widest(4, 50), call 511", many.widest(4, 50), few.widest(4, 50));
        due("digest(), call 512", many.digest(), few.digest());
        CrusherLoops x = new CrusherLoops();
        for (int call = 1; call <= 482; call++) {
            x.blank();
        }
        for (int call = 483; call <= 512; call++) {
            due("letter(48), call " + call, x.letter(48), call - 482);
        }
    }

    private static void noTableInANewObject() {
        sentence = "CrusherLoops(): No TABLE.";
        CrusherLoops x = new CrusherLoops();
        counts(x, 0, 0, 8, 9, 0, 0, 0);
        for (int k : new int[] {LOW, -1, 0, 1, 4, 5, HIGH}) {
            due("feed(" + k + ", 1)", x.feed(k, 1), UNKNOWN);
            due("size(" + k + ", 0)", x.size(k, 0), UNKNOWN);
            due("load(" + k + ", 0)", x.load(k, 0), UNKNOWN);
            due("finer(" + k + ", 0)", x.finer(k, 0), UNKNOWN);
            due("widest(" + k + ", 0)", x.widest(k, 0), UNKNOWN);
            due("stock(" + k + ")", x.stock(k), UNKNOWN);
            due("missed(" + k + ")", x.missed(k), UNKNOWN);
        }
        for (int what = 0; what <= 7; what++) {
            due("all(" + what + ")", x.all(what), STATE);
        }
        due("at(1, 0)", x.at(1, 0), STATE);
        due("at(100, 1)", x.at(100, 1), STATE);
        due("run(1)", x.run(1), STATE);
        due("empty()", x.empty(), STATE);
        due("table()", x.table(), STATE);
        due("fault()", x.fault(), 0);
        due("blank()", x.blank(), 0);
        due("stocks()", x.stocks(), 0);
        due("set(0, 40)", x.set(0, 40), 8);
        due("set(1, 10)", x.set(1, 10), 9);
        counts(x, 0, 0, 40, 10, 0, 0, 0);
    }

    // ---- texts

    private static void table(String text, int want) {
        CrusherLoops x = page(text);
        due("table() of '" + text + "'", x.table(), want);
        counts(x, want < 0 ? text.length() : 0, want < 0 ? 0 : want, 8, 9, 0, 0, want < 0 ? 0 : 1);
    }

    private static void fault(String text, int want) {
        CrusherLoops x = page(text);
        due("fault() of '" + text + "'", x.fault(), want);
        counts(x, text.length(), 0);
    }

    private static void twoToFiveClasses() {
        sentence = "ROWS .. one for each CLASS (two to five, numbered from 0, the coarsest first):";
        table("X", STATE);
        table("55;X", 2);
        table("136;28;X", 3);
        table("1234;226;37;X", 4);
        table(FIVE, 5);
        table("X00000;X0000;X000;X00;X0;X", STATE);
        fault("X;", 1);
        fault("X0;", 3);
        fault("X000;", 5);
        fault("X0000;", 6);
        fault("X00000", 5);
        CrusherLoops x = withTable("X0;X", 8, 9);
        due("size(-1, 0)", x.size(-1, 0), UNKNOWN);
        sizes(x, 0, 4, 2, UNKNOWN);
        x = withTable(FIVE, 8, 9);
        due("size(-1, 0)", x.size(-1, 0), UNKNOWN);
        sizes(x, 0, 32, 16, 8, 4, 2, UNKNOWN);
    }

    private static void asManySignsAsClasses() {
        sentence = "the first ROW has as many signs as there are CLASSES, each one behind it one less, the last one:";
        table("136;X;X", STATE);
        fault("136;X;", 5);
        table("136;280;X", STATE);
        fault("136;280", 6);
        table("136;28;X0", STATE);
        fault("136;28;X0", 8);
        table("136;28", STATE);
        fault("136;28", 6);
        table("136;28;", STATE);
        fault("136;28;", 7);
        table("136;28;X;", STATE);
        fault("136;28;X;", 8);
        table("136;28;X;X", STATE);
        table("X0000;X000;X00;X0;X", 5);
        table("X0000;X000;X00;X0;", STATE);
        table("X0000;X000;X00;X;X", STATE);
        fault("X0000;X000;X00;X;", 16);
        fault("X0000;X000;X0;", 13);
        fault("X0000;X00;", 9);
    }

    private static void figuresOrX() {
        sentence = "figures 0 to 9, or \"X\" for ten:";
        for (char sign : "/:WYx +-.,".toCharArray()) {
            fault(sign + "0;X", 0);
            fault("55;" + sign, 3);
            table("55;" + sign, STATE);
        }
        CrusherLoops x = withTable("0910;X00;91;X", 8, 9);
        int[][] tenths = {{0, 9, 1, 0}, {0, 10, 0, 0}, {0, 0, 9, 1}, {0, 0, 0, 10}};
        for (int as = 0; as < 4; as++) {
            sizes(x, 10 + as, tenths[0][as], tenths[1][as], tenths[2][as], tenths[3][as], UNKNOWN);
        }
        for (int figure = 0; figure <= 10; figure++) {
            String text = new StringBuilder().append(sign(figure)).append(sign(10 - figure)).append(";X").toString();
            x = withTable(text, 8, 9);
            sizes(x, 10, figure, 0);
            sizes(x, 11, 10 - figure, 10);
        }
    }

    private static char sign(int tenths) {
        return tenths == 10 ? 'X' : (char) ('0' + tenths);
    }

    private static void tenTogether() {
        sentence = "ten together in each ROW:";
        table("45;X", STATE);
        table("55;X", 2);
        table("65;X", STATE);
        table("333;28;X", STATE);
        table("334;27;X", STATE);
        table("334;28;X", 3);
        table("334;29;X", STATE);
        table("334;28;9", STATE);
        table("00;X", STATE);
        table("000X;000X;000;X", STATE);
        table("000X;00X;0X;X", 4);
    }

    private static void beyondTen() {
        sentence = "a ROW that comes beyond ten .. is wrong at the sign by which it becomes that:";
        fault("64", 2);
        fault("65", 1);
        fault("X", 1);
        fault("X1", 1);
        fault("1X", 1);
        fault("99000", 1);
        fault("1X000", 1);
        fault("55001", 4);
        fault("136;29", 5);
        fault("136;X1", 5);
        fault("1234;2261", 8);
        fault("1234;2290", 7);
    }

    private static void notToTenAnyMore() {
        sentence = "a ROW that .. cannot come to ten any more with as many signs as it may have;"
                + " the first ROW may have two to five:";
        fault("0000", 4);
        fault("0000X", 5);
        fault("00009", 4);
        fault("22221", 4);
        fault("22222", 5);
        fault("1234;2", 6);
        fault("1234;222", 7);
        fault("1234;00X", 8);
        fault("1234;009", 7);
        fault("136;0", 5);
        fault("136;09", 5);
        fault("136;0X", 6);
        fault("55;9", 3);
        fault("55;0", 3);
        fault("55;X", 4);
    }

    private static void noTableHasItThere() {
        sentence = "The place (from 0) of the first letter of THE PAGE that no TABLE has there:";
        fault(";", 0);
        fault("5;", 1);
        fault("X;", 1);
        fault("9;", 1);
        fault("54;", 2);
        fault("00;", 2);
        fault("5400;", 4);
        fault("55;;", 3);
        fault("136;;", 4);
        fault("136;2;", 5);
        fault("136;X;", 5);
        fault("55;X;", 4);
        fault("55;X0", 4);
        fault("55;XX", 4);
        fault("55;X ", 4);
        fault(" 55;X", 0);
    }

    private static void behindThoseAhead() {
        sentence = "behind those ahead of it .. how many letters it has, if there is none:";
        for (int length = 0; length <= FIVE.length(); length++) {
            fault(FIVE.substring(0, length), length);
            if (length < FIVE.length()) {
                fault(FIVE.substring(0, length) + "~", length);
            }
        }
        fault(FIVE + "~", 19);
        fault("66;7;z", 1);
        fault("5z;7;z", 1);
    }

    private static void faultOfAnEmptyPage() {
        sentence = "fault, an empty PAGE:";
        fault("", 0);
        CrusherLoops x = withTable("55;X", 8, 9);
        due("fault() behind table()", x.fault(), 0);
        x.letter(';');
        x.blank();
        due("fault() behind blank()", x.fault(), 0);
        x.letter('5');
        due("fault() of a letter", x.fault(), 1);
    }

    private static void faultOfAFullPage() {
        sentence = "fault, a full PAGE:";
        fault(FIVE + "zzzzzzzzzzz", 19);
        fault("zzzzzzzzzzzzzzzzzzzzzzzzzzzzzz", 0);
        fault(THIRTY, 5);
        fault("000000000000000000000000000000", 4);
        CrusherLoops x = page(THIRTY);
        x.letter('0');
        due("fault() behind a letter that was FULL", x.fault(), 5);
        due("table()", x.table(), STATE);
    }

    private static void codes() {
        sentence = "letter: OUTSIDE: code (32 to 126):";
        CrusherLoops x = new CrusherLoops();
        for (int code = 32; code <= 126; code++) {
            due("letter(" + code + ")", x.letter(code), 1);
            x.blank();
        }
        for (int code : new int[] {31, 127, 128, 0, -1, -32, 32 + 256, 32 + 65536, 88 - 65536, LOW, LOW + 88, HIGH}) {
            due("letter(" + code + ")", x.letter(code), OUTSIDE);
        }
        due("count(0)", x.count(0), 0);
    }

    private static void aboveThirty() {
        sentence = "letter: FULL: above 30:";
        CrusherLoops x = page(THIRTY.substring(1));
        due("letter(48), the thirtieth", x.letter(48), 30);
        due("letter(48), the thirty-first", x.letter(48), FULL);
        due("letter(48) again", x.letter(48), FULL);
        due("count(0)", x.count(0), 30);
        due("blank()", x.blank(), 30);
        due("letter(48) behind blank()", x.letter(48), 1);
    }

    private static void blankPage() {
        sentence = "blank: THE PAGE is empty: how many letters it had:";
        CrusherLoops x = new CrusherLoops();
        due("blank() of an empty one", x.blank(), 0);
        x.letter(126);
        due("blank() of one", x.blank(), 1);
        due("blank() again", x.blank(), 0);
        write(x, THIRTY);
        due("blank() of a full one", x.blank(), 30);
        due("count(0)", x.count(0), 0);
        due("fault()", x.fault(), 0);
        read(x, FIVE);
        due("blank() behind table()", x.blank(), 0);
        counts(x, 0, 5, 8, 9, 0, 0, 1);
    }

    private static void readAsATable() {
        sentence = "table: THE PAGE is read as a TABLE: how many CLASSES; THE PAGE is empty then:";
        CrusherLoops x = page("X0;X");
        due("table()", x.table(), 2);
        due("count(0)", x.count(0), 0);
        due("table() of the empty PAGE", x.table(), STATE);
        due("count(6)", x.count(6), 1);
        write(x, FIVE);
        due("table()", x.table(), 5);
        counts(x, 0, 5, 8, 9, 0, 0, 2);
    }

    private static void noTableToRead() {
        sentence = "table: STATE: it is none:";
        String[] none = {"", "5", "55", "55;", "X", ";", "55;X;", "55;XX", "55;X ", " 55;X", "55;x", "55;9", "54;X", "56;X",
            FIVE.substring(0, 18), FIVE + "0", FIVE + "zzzzzzzzzzz", THIRTY};
        for (String text : none) {
            table(text, STATE);
            CrusherLoops x = withFeeds("46;X", 3, 10, 50, 7);
            x.run(2);
            write(x, text);
            long before = x.digest();
            due("table() of '" + text + "', behind another TABLE", x.table(), STATE);
            counts(x, text.length(), 2, 3, 10, 2, 2, 1);
            due("digest()", x.digest(), before);
        }
    }

    private static void anotherOneIsGone() {
        sentence = "table: another one is gone; FEEDS, STOCKS are 0, there were no TICKS, GAP and GRADE stay:";
        CrusherLoops x = withFeeds(FIVE, 40, 1, 99, 99, 99, 99, 99);
        x.run(50);
        read(x, "0X;X");
        counts(x, 0, 2, 40, 1, 0, 50, 2);
        sizes(x, 0, 4, 2, UNKNOWN, UNKNOWN, UNKNOWN);
        sizes(x, 1, 0, 0, UNKNOWN);
        sizes(x, 10, 0, 0);
        sizes(x, 11, 10, 10);
        sizes(x, 12, NONE, NONE);
        due("stock(0)", x.stock(0), 0);
        due("stock(1)", x.stock(1), 0);
        due("stock(2)", x.stock(2), UNKNOWN);
        due("stocks()", x.stocks(), 0);
        due("empty()", x.empty(), 0);
        x.feed(0, 7);
        x.run(1);
        read(x, FIVE);
        counts(x, 0, 5, 40, 1, 0, 51, 3);
        sizes(x, 1, 0, 0, 0, 0, 0, UNKNOWN);
        for (int k = 0; k < 5; k++) {
            due("stock(" + k + ")", x.stock(k), 0);
        }
        read(x, FIVE);
        counts(x, 0, 5, 40, 1, 0, 51, 4);
    }

    // ---- what is told

    private static void sizesByClasses() {
        sentence = "SIZE of a CLASS is 2 to the power of (how many CLASSES there are, less its number):";
        sizes(withTable("X0;X", 8, 9), 0, 4, 2, UNKNOWN);
        sizes(withTable("X00;X0;X", 8, 9), 0, 8, 4, 2, UNKNOWN);
        sizes(withTable("X000;X00;X0;X", 8, 9), 0, 16, 8, 4, 2, UNKNOWN);
        sizes(withTable("X0000;X000;X00;X0;X", 8, 9), 0, 32, 16, 8, 4, 2, UNKNOWN);
    }

    private static void feedEnds() {
        sentence = "FEED of a CLASS (0 to 99; 0 at first):";
        CrusherLoops x = withTable(FIVE, 8, 9);
        for (int k = 0; k < 5; k++) {
            due("feed(" + k + ", 99)", x.feed(k, 99), 0);
            due("feed(" + k + ", 100)", x.feed(k, 100), OUTSIDE);
            due("feed(" + k + ", 0)", x.feed(k, 0), 99);
            due("feed(" + k + ", -1)", x.feed(k, -1), OUTSIDE);
            due("feed(" + k + ", 1)", x.feed(k, 1), 0);
            due("feed(" + k + ", 98)", x.feed(k, 98), 1);
            due("feed(" + k + ", LOW)", x.feed(k, LOW), OUTSIDE);
            due("feed(" + k + ", HIGH)", x.feed(k, HIGH), OUTSIDE);
            due("feed(" + k + ", k)", x.feed(k, k), 98);
        }
        sizes(x, 1, 0, 1, 2, 3, 4, UNKNOWN);
        for (int k : new int[] {-1, 5, 6, LOW, HIGH}) {
            due("feed(" + k + ", 1)", x.feed(k, 1), UNKNOWN);
        }
        due("all(6)", x.all(6), 10);
    }

    private static void gapEnds() {
        sentence = "GAP (0 to 40; 8 at first):";
        CrusherLoops x = new CrusherLoops();
        due("set(0, 41)", x.set(0, 41), OUTSIDE);
        due("set(0, -1)", x.set(0, -1), OUTSIDE);
        due("set(0, 40)", x.set(0, 40), 8);
        due("set(0, 0)", x.set(0, 0), 40);
        due("set(0, LOW)", x.set(0, LOW), OUTSIDE);
        due("set(0, HIGH)", x.set(0, HIGH), OUTSIDE);
        due("set(0, 39)", x.set(0, 39), 0);
        due("set(0, 11)", x.set(0, 11), 39);
        due("set(-1, 8)", x.set(-1, 8), OUTSIDE);
        due("set(2, 8)", x.set(2, 8), OUTSIDE);
        counts(x, 0, 0, 11, 9);
    }

    private static void gradeEnds() {
        sentence = "GRADE (1 to 10; 9 at first):";
        CrusherLoops x = new CrusherLoops();
        due("set(1, 0)", x.set(1, 0), OUTSIDE);
        due("set(1, 11)", x.set(1, 11), OUTSIDE);
        due("set(1, 1)", x.set(1, 1), 9);
        due("set(1, 10)", x.set(1, 10), 1);
        due("set(1, LOW)", x.set(1, LOW), OUTSIDE);
        due("set(1, HIGH)", x.set(1, HIGH), OUTSIDE);
        due("set(1, 2)", x.set(1, 2), 10);
        due("set(LOW, 2)", x.set(LOW, 2), OUTSIDE);
        due("set(HIGH, 2)", x.set(HIGH, 2), OUTSIDE);
        counts(x, 0, 0, 8, 2);
    }

    private static void passWhereSizeIsGap() {
        sentence = "PASS: GRADE, if its SIZE is GAP or less:";
        CrusherLoops x = withTable(FIVE, 8, 10);
        int[][] byGap = {{1, 0, 0, 0, 0, 0}, {2, 0, 0, 0, 0, 10}, {3, 0, 0, 0, 5, 10}, {4, 0, 0, 0, 10, 10},
            {7, 0, 0, 7, 10, 10}, {8, 0, 0, 10, 10, 10}, {15, 0, 8, 10, 10, 10}, {16, 0, 10, 10, 10, 10},
            {31, 9, 10, 10, 10, 10}, {32, 10, 10, 10, 10, 10}, {33, 10, 10, 10, 10, 10}, {40, 10, 10, 10, 10, 10}};
        for (int[] row : byGap) {
            x.set(0, row[0]);
            sizes(x, 2, row[1], row[2], row[3], row[4], row[5]);
        }
        x.set(1, 1);
        sizes(x, 2, 1, 1, 1, 1, 1);
    }

    private static void passWhereHalfIsGap() {
        sentence = "PASS: 0, if half of its SIZE is GAP or more:";
        CrusherLoops x = withTable(FIVE, 0, 10);
        sizes(x, 2, 0, 0, 0, 0, 0);
        int[][] byGap = {{2, 0, 0, 0, 0, 10}, {4, 0, 0, 0, 10, 10}, {5, 0, 0, 2, 10, 10}, {8, 0, 0, 10, 10, 10},
            {9, 0, 1, 10, 10, 10}, {16, 0, 10, 10, 10, 10}, {17, 0, 10, 10, 10, 10}, {18, 1, 10, 10, 10, 10}};
        for (int[] row : byGap) {
            x.set(0, row[0]);
            sizes(x, 2, row[1], row[2], row[3], row[4], row[5]);
        }
    }

    private static void passRoundedDown() {
        sentence = "PASS: else GRADE * (2 * GAP - SIZE) / SIZE, rounded down:";
        CrusherLoops x = withTable(FIVE, 20, 10);
        int[][] ofCoarsest = {{20, 10, 2}, {19, 10, 1}, {24, 10, 5}, {24, 9, 4}, {31, 9, 8}, {31, 1, 0}, {32, 1, 1},
            {17, 9, 0}, {28, 2, 1}, {24, 2, 1}, {23, 2, 0}, {27, 8, 5}};
        for (int[] row : ofCoarsest) {
            x.set(0, row[0]);
            x.set(1, row[1]);
            due("PASS by GAP " + row[0] + ", GRADE " + row[1], x.size(0, 2), row[2]);
        }
        x = withTable("46;X", 3, 9);
        sizes(x, 2, 4, 9);
        x.set(1, 1);
        sizes(x, 2, 0, 1);
    }

    private static void sizeAsked() {
        sentence = "size: UNKNOWN: k; OUTSIDE: what (0 to 2, 10 to 14):";
        CrusherLoops x = withFeeds("136;28;X", 8, 9, 5, 6, 7);
        long[] wants = {8, 5, 9};
        for (int what = 0; what <= 2; what++) {
            due("size(0, " + what + ")", x.size(0, what), wants[what]);
        }
        for (int what : new int[] {-1, 3, 4, 9, 15, 16, LOW, LOW + 9, LOW + 10, LOW + 14, HIGH}) {
            due("size(0, " + what + ")", x.size(0, what), OUTSIDE);
            due("size(2, " + what + ")", x.size(2, what), OUTSIDE);
        }
        for (int k : new int[] {-1, 3, 4, LOW, HIGH}) {
            for (int what : new int[] {0, 1, 2, 10, 14, 3, 15}) {
                due("size(" + k + ", " + what + ")", x.size(k, what), UNKNOWN);
            }
        }
    }

    private static void tenthsAsked() {
        sentence = "size: TENTHS .. as CLASS 0 to 4 (0 for coarser ones than it itself; NONE: there is no such CLASS):";
        CrusherLoops x = withTable("46;X", 8, 9);
        int[][] ofTwo = {{4, 6, NONE, NONE, NONE}, {0, 10, NONE, NONE, NONE}};
        for (int as = 0; as < 5; as++) {
            sizes(x, 10 + as, ofTwo[0][as], ofTwo[1][as]);
        }
        read(x, "1234;226;37;X");
        int[][] ofFour = {{1, 2, 3, 4, NONE}, {0, 2, 2, 6, NONE}, {0, 0, 3, 7, NONE}, {0, 0, 0, 10, NONE}};
        for (int as = 0; as < 5; as++) {
            sizes(x, 10 + as, ofFour[0][as], ofFour[1][as], ofFour[2][as], ofFour[3][as]);
        }
        read(x, FIVE);
        sizes(x, 14, 2, 1, 5, 5, 10);
        read(x, "46;X");
        sizes(x, 12, NONE, NONE);
        sizes(x, 14, NONE, NONE);
    }

    private static void countAsked() {
        sentence = "count: OUTSIDE:";
        CrusherLoops x = new CrusherLoops();
        for (int what : new int[] {-1, 7, 8, LOW, HIGH}) {
            due("count(" + what + ")", x.count(what), OUTSIDE);
        }
        counts(x, 0, 0, 8, 9, 0, 0, 0, OUTSIDE);
        write(x, THIRTY);
        counts(x, 30, 0, 8, 9, 0, 0, 0, OUTSIDE);
    }

    // ---- for ever

    private static void endless() {
        sentence = "If nothing of a CLASS passes, and all ten TENTHS of it come out as it itself, LOAD is ENDLESS,"
                + " if FEED brings anything to it, else 0:";
        CrusherLoops x = withFeeds("X0;X", 2, 10, 1);
        loads(x, 0, NONE, NONE, 0, 1, NONE, NONE);
        alls(x, NONE, NONE, 0, 1, NONE, NONE, 1, 1);
        x.feed(0, 99);
        loads(x, 0, NONE, NONE, 0, 1, NONE, NONE);
        x.feed(0, 0);
        loads(x, 0, 0, 1, 0, 1, 0, 1);
        alls(x, 0, 1, 0, 1, 0, 1, 0, 0);
        x = withFeeds("46;X", 0, 1, 0, 1);
        loads(x, 1, NONE, NONE, 0, 1, NONE, NONE);
        due("all(7)", x.all(7), 2);
        x = withFeeds("X0000;X000;X00;X0;X", 1, 10, 1, 1, 1, 1, 1);
        due("all(7)", x.all(7), 31);
        x.feed(2, 0);
        due("all(7)", x.all(7), 27);
    }

    private static void notEndless() {
        sentence = "LOAD, next to ENDLESS (nine TENTHS come out as it itself, or one tenth passes):";
        CrusherLoops x = withFeeds("91;X", 2, 10, 99);
        loads(x, 0, 990, 1, 0, 1, 990, 1);
        loads(x, 1, 99, 1, 99, 1, 0, 1);
        due("all(7)", x.all(7), 0);
        x = withFeeds("X0;X", 4, 1, 99);
        loads(x, 0, 990, 1, 99, 1, 891, 1);
        loads(x, 1, 0, 1, 0, 1, 0, 1);
        x.set(0, 3);
        loads(x, 0, NONE, NONE, 0, 1, NONE, NONE);
        x.set(1, 2);
        loads(x, 0, 990, 1, 99, 1, 891, 1);
    }

    private static void endlessByACoarserOne() {
        sentence = "LOAD is ENDLESS, if .. a coarser one brings anything to it, else 0:";
        CrusherLoops x = withFeeds("91;X", 1, 10, 1, 0);
        loads(x, 0, 10, 1, 0, 1, 10, 1);
        loads(x, 1, NONE, NONE, 0, 1, NONE, NONE);
        alls(x, NONE, NONE, 0, 1, NONE, NONE, 1, 2);
        x.feed(0, 0);
        loads(x, 1, 0, 1, 0, 1, 0, 1);
        due("all(7)", x.all(7), 0);
        x = withFeeds("505;X0;X", 2, 10, 4);
        loads(x, 0, 8, 1, 0, 1, 8, 1);
        loads(x, 1, 0, 1, 0, 1, 0, 1);
        loads(x, 2, 4, 1, 4, 1, 0, 1);
        due("all(7)", x.all(7), 0);
        x = withFeeds("550;X0;X", 2, 10, 4);
        loads(x, 1, NONE, NONE, 0, 1, NONE, NONE);
        loads(x, 2, 0, 1, 0, 1, 0, 1);
        due("all(7)", x.all(7), 2);
    }

    private static void nothingComesToFinerOnes() {
        sentence = "Nothing of it comes to finer ones then:";
        CrusherLoops x = withFeeds("X00;X0;X", 1, 10, 99, 0, 0);
        loads(x, 0, NONE, NONE, 0, 1, NONE, NONE);
        loads(x, 1, 0, 1, 0, 1, 0, 1);
        loads(x, 2, 0, 1, 0, 1, 0, 1);
        due("all(7)", x.all(7), 1);
        x = withFeeds("X00;46;X", 2, 10, 99, 6, 0);
        loads(x, 1, 10, 1, 0, 1, 10, 1);
        loads(x, 2, 6, 1, 6, 1, 0, 1);
        alls(x, NONE, NONE, 6, 1, NONE, NONE, 105, 1);
        fraction("finer(0)", x.finer(0, 0), x.finer(0, 1), 100, 1);
        fraction("finer(2)", x.finer(2, 0), x.finer(2, 1), 100, 1);
        fraction("at(100)", x.at(100, 0), x.at(100, 1), 2, 1);
    }

    private static void nothingPasses() {
        sentence = "LEAVES of a CLASS: LOAD, by tenths that pass (0, if none do):";
        CrusherLoops x = withFeeds("55;X", 2, 10, 3, 0);
        loads(x, 0, 6, 1, 0, 1, 6, 1);
        loads(x, 1, 3, 1, 3, 1, 0, 1);
        alls(x, 9, 1, 3, 1, 6, 1, 3, 0);
        x = withFeeds("5500;550;55;X", 0, 10, 1);
        for (int k = 0; k < 3; k++) {
            loads(x, k, 2, 1, 0, 1, 2, 1);
        }
        loads(x, 3, NONE, NONE, 0, 1, NONE, NONE);
        due("finer(0, 0)", x.finer(0, 0), STATE);
        due("at(1, 0)", x.at(1, 0), STATE);
    }

    private static void allPasses() {
        sentence = "ROUND of a CLASS: LOAD less LEAVES (all pass):";
        CrusherLoops x = withFeeds(FIVE, 40, 10, 99, 98, 97, 96, 95);
        for (int k = 0; k < 5; k++) {
            loads(x, k, 99 - k, 1, 99 - k, 1, 0, 1);
        }
        alls(x, 485, 1, 485, 1, 0, 1, 485, 0);
        x.feed(4, 0);
        loads(x, 4, 0, 1, 0, 1, 0, 1);
    }

    private static void lowestTerms() {
        sentence = "Fractions are told in lowest terms, what is below being above 0 (0 is 0 by 1):";
        CrusherLoops x = withTable(FIVE, 31, 7);
        for (int k = 0; k < 5; k++) {
            loads(x, k, 0, 1, 0, 1, 0, 1);
        }
        alls(x, 0, 1, 0, 1, 0, 1, 0, 0);
        x = withFeeds("46;X", 8, 9, 48, 0);
        loads(x, 0, 50, 1, 45, 1, 5, 1);
        loads(x, 1, 10, 3, 3, 1, 1, 3);
        alls(x, 160, 3, 48, 1, 16, 3, 48, 0);
        fraction("finer(1)", x.finer(1, 0), x.finer(1, 1), 25, 4);
        x.feed(0, 0);
        x.feed(1, 9);
        loads(x, 0, 0, 1, 0, 1, 0, 1);
        loads(x, 1, 10, 1, 9, 1, 1, 1);
        alls(x, 10, 1, 9, 1, 1, 1, 9, 0);
    }

    /** The numbers come from fractions of any length, reckoned outside of this program. */
    private static void longestFractions() {
        sentence = "exact fractions, as long as they become:";
        CrusherLoops x = withFeeds("61012;1315;172;46;X", 40, 7, 89, 99, 97, 97, 97);
        long[][] wants = {{4450, 41}, {419250, 3977}, {42350150, 385769}, {2439462175L, 16973836},
            {25763104615L, 118816852}};
        for (int k = 0; k < 5; k++) {
            loads(x, k, wants[k][0], wants[k][1]);
        }
        alls(x, 4790, 7, 479, 1, 1437, 7, 479, 0);
        fraction("at(1)", x.at(1, 0), x.at(1, 1), 8130467444L, 128815523075L);
        fraction("at(50)", x.at(50, 0), x.at(50, 1), 12786187132L, 3415247045L);
        fraction("at(100)", x.at(100, 0), x.at(100, 1), 32, 1);
        fraction("finer(4)", x.finer(4, 0), x.finer(4, 1), 128815523075L, 4065233722L);
        fraction("finer(3)", x.finer(3, 0), x.finer(3, 1), 9736213600L, 184783351);
        due("missed(4)", x.missed(4), bits(25763104615.0 / 118816852.0));
    }

    private static void loadAsked() {
        sentence = "load: UNKNOWN: k; OUTSIDE (0 to 5):";
        CrusherLoops x = withFeeds("55;X", 2, 10, 3, 0);
        loads(x, 0, 6, 1, 0, 1, 6, 1, OUTSIDE);
        for (int what : new int[] {-1, -2, 6, 7, LOW, HIGH}) {
            due("load(1, " + what + ")", x.load(1, what), OUTSIDE);
        }
        for (int k : new int[] {-1, 2, 4, 5, LOW, HIGH}) {
            due("load(" + k + ", 0)", x.load(k, 0), UNKNOWN);
            due("load(" + k + ", 5)", x.load(k, 5), UNKNOWN);
        }
    }

    private static void allAsked() {
        sentence = "all: STATE: no TABLE; OUTSIDE (0 to 7, ahead of that):";
        CrusherLoops x = withFeeds("55;X", 2, 10, 3, 0);
        alls(x, 9, 1, 3, 1, 6, 1, 3, 0, OUTSIDE);
        for (int what : new int[] {-1, 8, 9, LOW, HIGH}) {
            due("all(" + what + ")", x.all(what), OUTSIDE);
            due("all(" + what + ") of no TABLE", new CrusherLoops().all(what), OUTSIDE);
        }
        alls(new CrusherLoops(), STATE, STATE, STATE, STATE, STATE, STATE, STATE, STATE, OUTSIDE);
        alls(page("55;X"), STATE, STATE, STATE, STATE, STATE, STATE, STATE, STATE, OUTSIDE);
    }

    private static void finerEnds() {
        sentence = "FINER than a CLASS c: the share of LEAVES of CLASSES c and on, of LEAVES of all:";
        CrusherLoops x = withFeeds("55000;5500;550;55;X", 40, 10, 0, 1, 2, 3, 4);
        long[][] wants = {{100, 1}, {100, 1}, {90, 1}, {70, 1}, {40, 1}};
        for (int k = 0; k < 5; k++) {
            fraction("finer(" + k + ")", x.finer(k, 0), x.finer(k, 1), wants[k][0], wants[k][1]);
        }
        due("finer(5, 0)", x.finer(5, 0), UNKNOWN);
        due("finer(-1, 0)", x.finer(-1, 0), UNKNOWN);
        due("finer(4, 2)", x.finer(4, 2), OUTSIDE);
        due("finer(4, -1)", x.finer(4, -1), OUTSIDE);
        x.feed(4, 0);
        fraction("finer(4)", x.finer(4, 0), x.finer(4, 1), 0, 1);
        x.set(0, 3);
        fraction("finer(4), all of it brought", x.finer(4, 0), x.finer(4, 1), 100, 3);
        x.set(0, 1);
        due("finer(0, 0), nothing passes", x.finer(0, 0), STATE);
        due("finer(4, 1), nothing passes", x.finer(4, 1), STATE);
        x = withTable("55;X", 8, 9);
        due("finer(0, 0), no FEED", x.finer(0, 0), STATE);
        x = withFeeds("X0;X", 2, 9, 1);
        due("finer(0, 0), only an ENDLESS one", x.finer(0, 0), STATE);
    }

    private static void at(CrusherLoops x, int percent, long above, long below) {
        fraction("at(" + percent + ")", x.at(percent, 0), x.at(percent, 1), above, below);
    }

    private static void atHoldsFromTo() {
        sentence = "it holds what is from half of its SIZE to its SIZE (the last one: from 0):";
        long[][] first = {{404, 25}, {202, 25}, {101, 25}, {101, 50}, {1, 50}};
        for (int k = 0; k < 5; k++) {
            CrusherLoops x = withTable(FIVE, 40, 10);
            x.feed(k, 1);
            at(x, 1, first[k][0], first[k][1]);
            at(x, 100, 32 >> k, 1);
            at(x, 50, k == 4 ? 1 : 3 * (8 >> k), 1);
        }
        CrusherLoops x = withFeeds("46;X", 8, 10, 0, 1);
        at(x, 1, 1, 50);
        x = withFeeds("46;X", 8, 10, 1, 0);
        at(x, 1, 101, 50);
        at(x, 100, 4, 1);
    }

    private static void thatMuchOrMore() {
        sentence = "AT: in the finest CLASS by which, with all finer ones, there is that much or more:";
        CrusherLoops x = withFeeds("136;28;X", 8, 10, 50, 30, 20);
        at(x, 1, 1, 10);
        at(x, 19, 19, 10);
        at(x, 20, 2, 1);
        at(x, 21, 31, 15);
        at(x, 49, 59, 15);
        at(x, 50, 4, 1);
        at(x, 51, 102, 25);
        at(x, 99, 198, 25);
        at(x, 100, 8, 1);
    }

    private static void noneLeavesIsNotMeant() {
        sentence = "AT: (one of which nothing leaves is not meant):";
        CrusherLoops x = withFeeds("136;28;X", 8, 10, 10, 0, 10);
        at(x, 50, 2, 1);
        at(x, 51, 102, 25);
        at(x, 100, 8, 1);
        x.feed(2, 0);
        at(x, 1, 101, 25);
        at(x, 100, 8, 1);
        x.feed(0, 0);
        x.feed(1, 10);
        at(x, 1, 101, 50);
        at(x, 100, 4, 1);
        x.feed(2, 10);
        at(x, 50, 2, 1);
        at(x, 100, 4, 1);
        x.feed(1, 0);
        at(x, 100, 2, 1);
    }

    private static void atEnds() {
        sentence = "at: OUTSIDE: percent (1 to 100), part; STATE: no TABLE, nothing LEAVES:";
        CrusherLoops x = withFeeds("46;X", 8, 10, 0, 1);
        at(x, 1, 1, 50);
        at(x, 100, 2, 1);
        at(x, 0, OUTSIDE, OUTSIDE);
        at(x, 101, OUTSIDE, OUTSIDE);
        at(x, LOW, OUTSIDE, OUTSIDE);
        at(x, HIGH, OUTSIDE, OUTSIDE);
        for (int part : new int[] {-1, 2, LOW, HIGH}) {
            due("at(1, " + part + ")", x.at(1, part), OUTSIDE);
        }
        x.set(0, 1);
        at(x, 1, STATE, STATE);
        at(x, 100, STATE, STATE);
        at(x, 101, OUTSIDE, OUTSIDE);
        x.set(0, 8);
        x.feed(1, 0);
        at(x, 50, STATE, STATE);
        due("at(50, 2)", x.at(50, 2), OUTSIDE);
        at(new CrusherLoops(), 50, STATE, STATE);
    }

    private static void widestEnds() {
        sentence = "WIDEST: the greatest GAP (0 to 40), so that FINER than c is that share or more:";
        CrusherLoops x = withFeeds("0X;X", 8, 10, 1, 1);
        due("widest(0, 0)", x.widest(0, 0), 40);
        due("widest(0, 100)", x.widest(0, 100), 40);
        due("widest(1, 50), just that share", x.widest(1, 50), 40);
        due("widest(1, 51)", x.widest(1, 51), 3);
        due("widest(1, 75), just that share", x.widest(1, 75), 3);
        due("widest(1, 76)", x.widest(1, 76), 2);
        due("widest(1, 100)", x.widest(1, 100), 2);
        due("widest(1, 101)", x.widest(1, 101), OUTSIDE);
        due("widest(1, -1)", x.widest(1, -1), OUTSIDE);
        due("widest(1, LOW)", x.widest(1, LOW), OUTSIDE);
        due("widest(1, HIGH)", x.widest(1, HIGH), OUTSIDE);
        due("widest(2, 50)", x.widest(2, 50), UNKNOWN);
        due("widest(-1, 50)", x.widest(-1, 50), UNKNOWN);
        x = withFeeds("0000X;000X;00X;0X;X", 8, 10, 1);
        due("widest(0, 100)", x.widest(0, 100), 40);
        due("widest(1, 1)", x.widest(1, 1), 31);
        due("widest(1, 10)", x.widest(1, 10), 31);
        due("widest(1, 11)", x.widest(1, 11), 30);
        due("widest(1, 100)", x.widest(1, 100), 17);
        due("widest(4, 100)", x.widest(4, 100), 17);
        x.set(1, 1);
        due("widest(1, 100), GRADE 1", x.widest(1, 100), 31);
        x = withFeeds("0000X;000X;00X;0X;X", 8, 10, 1, 99, 99, 99, 99);
        due("widest(1, 99), next to 100", x.widest(1, 99), 40);
        due("widest(1, 100), next to it", x.widest(1, 100), 17);
    }

    private static void widestNone() {
        sentence = "WIDEST: no LOAD is ENDLESS, something LEAVES .. none:";
        CrusherLoops x = withTable("46;X", 8, 9);
        due("widest(0, 0), no FEED", x.widest(0, 0), NONE);
        due("widest(1, 100), no FEED", x.widest(1, 100), NONE);
        x = withFeeds("X0;X", 8, 9, 1, 1);
        due("widest(1, 50)", x.widest(1, 50), 40);
        due("widest(1, 51), one ENDLESS by smaller ones", x.widest(1, 51), NONE);
        x.feed(0, 0);
        due("widest(1, 51), none ENDLESS", x.widest(1, 51), 40);
        x.feed(0, 1);
        x.feed(1, 0);
        due("widest(1, 1), all of it coarse", x.widest(1, 1), NONE);
        due("widest(1, 0), all of it coarse", x.widest(1, 0), 40);
    }

    private static void widestAsAllElseIs() {
        sentence = "WIDEST: (all else as it is):";
        CrusherLoops x = withFeeds("0X;X", 0, 10, 1, 1);
        for (int gap = 0; gap <= 40; gap++) {
            x.set(0, gap);
            due("widest(1, 75) by GAP " + gap, x.widest(1, 75), 3);
            due("GAP", x.count(2), gap);
        }
        x.set(0, 3);
        loads(x, 0, 1, 1, 1, 2, 1, 2);
        due("widest(1, 76)", x.widest(1, 76), 2);
        loads(x, 0, 1, 1, 1, 2, 1, 2);
        due("all(7)", x.all(7), 0);
        x.set(1, 1);
        due("widest(1, 95), GRADE 1", x.widest(1, 95), 40);
        due("widest(1, 96), GRADE 1", x.widest(1, 96), 3);
    }

    // ---- tick by tick

    private static void ticksInACall() {
        sentence = "run: So many TICKS (1 to 50); OUTSIDE:";
        CrusherLoops x = withFeeds("0X;X", 8, 9, 10);
        for (int n : new int[] {0, 51, -1, -50, LOW, HIGH}) {
            due("run(" + n + ")", x.run(n), OUTSIDE);
        }
        counts(x, 0, 2, 8, 9, 0, 0, 1);
        due("run(1)", x.run(1), 1);
        due("run(50)", x.run(50), 51);
        CrusherLoops one = withFeeds("0X;X", 8, 9, 10);
        for (int ticks = 1; ticks <= 51; ticks++) {
            due("run(1)", one.run(1), ticks);
        }
        due("stock(1)", x.stock(1), one.stock(1));
        due("digest()", x.digest(), one.digest());
    }

    private static CrusherLoops withTicks(int ticks) {
        CrusherLoops x = withFeeds("0X;X", 8, 9, 10);
        for (int done = 0; done < ticks; done += 50) {
            x.run(Math.min(50, ticks - done));
        }
        due("count(4)", x.count(4), ticks);
        return x;
    }

    private static void mostTicks() {
        sentence = "run: STATE: .. or there would be more than 5000:";
        CrusherLoops x = withTicks(4950);
        due("run(50) to 5000", x.run(50), 5000);
        long stock = x.stock(1);
        for (int n = 1; n <= 50; n++) {
            due("run(" + n + ") behind 5000", x.run(n), STATE);
        }
        due("run(51) behind 5000", x.run(51), OUTSIDE);
        due("run(0) behind 5000", x.run(0), OUTSIDE);
        counts(x, 0, 2, 8, 9, 5000, 5000, 1);
        due("stock(1)", x.stock(1), stock);
        x = withTicks(4951);
        due("run(50) to 5001", x.run(50), STATE);
        due("run(49) to 5000", x.run(49), 5000);
        x = withTicks(4999);
        due("run(2) to 5001", x.run(2), STATE);
        due("run(1) to 5000", x.run(1), 5000);
    }

    private static void ticksSinceTheTable() {
        sentence = "run: how many there were since the TABLE was read:";
        CrusherLoops x = withTicks(5000);
        read(x, "0X;X");
        counts(x, 0, 2, 8, 9, 0, 5000, 2);
        due("run(50)", x.run(50), 50);
        counts(x, 0, 2, 8, 9, 50, 5050, 2);
        x = withTicks(5000);
        due("empty()", x.empty(), 5000);
        due("run(50)", x.run(50), 50);
        counts(x, 0, 2, 8, 9, 50, 5050, 1);
        for (int ticks = 100; ticks <= 5000; ticks += 50) {
            due("run(50)", x.run(50), ticks);
        }
        due("run(1)", x.run(1), STATE);
        counts(x, 0, 2, 8, 9, 5000, 10000, 1);
    }

    private static void emptied() {
        sentence = "empty: All STOCKS are 0, there were no TICKS: how many there were; STATE: no TABLE:";
        due("empty() of no TABLE", new CrusherLoops().empty(), STATE);
        due("empty() of a PAGE", page("55;X").empty(), STATE);
        CrusherLoops x = withFeeds(FIVE, 31, 7, 1, 2, 3, 4, 5);
        due("empty() of none", x.empty(), 0);
        x.run(1);
        due("empty() of one", x.empty(), 1);
        due("empty() again", x.empty(), 0);
        for (int k = 0; k < 5; k++) {
            due("stock(" + k + ")", x.stock(k), 0);
        }
        due("stocks()", x.stocks(), 0);
        sizes(x, 1, 1, 2, 3, 4, 5);
        counts(x, 0, 5, 31, 7, 0, 1, 1);
    }

    private static void stocksAtFirst() {
        sentence = "STOCK of a CLASS is a float (0 at first, and when a TABLE is read):";
        CrusherLoops x = withFeeds("46;X", 8, 9, 50, 7);
        due("stock(0)", x.stock(0), 0);
        due("stock(1)", x.stock(1), 0);
        x.run(3);
        due("stock(0) is above 0", x.stock(0) > 0 ? 1 : 0, 1);
        read(x, "46;X");
        due("stock(0)", x.stock(0), 0);
        due("stock(1)", x.stock(1), 0);
        due("run(1)", x.run(1), 1);
        due("stock(0), no FEED", x.stock(0), 0);
        for (int k : new int[] {-1, 2, 3, 5, LOW, HIGH}) {
            due("stock(" + k + ")", x.stock(k), UNKNOWN);
        }
    }

    private static void allAtOnce() {
        sentence = "A TICK, all at once by STOCKS ahead of it:";
        CrusherLoops x = withFeeds("0X000;0X00;0X0;0X;X", 0, 10, 8);
        int eight = bits(8f);
        for (int ticks = 1; ticks <= 5; ticks++) {
            x.run(1);
            for (int k = 0; k < 5; k++) {
                due("stock(" + k + ") behind " + ticks, x.stock(k), k < ticks ? eight : 0);
            }
        }
        x.run(1);
        due("stock(4), brought and kept", x.stock(4), bits(16f));
        x.set(0, 2);
        x.run(1);
        due("stock(4) by GAP as it is then", x.stock(4), eight);
        x.feed(0, 0);
        x.run(1);
        due("stock(0) by FEED as it is then", x.stock(0), 0);
        due("stock(1)", x.stock(1), eight);
    }

    private static void eachAsAFloat() {
        sentence = "each of these as a float:";
        CrusherLoops x = withFeeds("136;28;X", 8, 7, 97, 89, 83);
        float[] stock = new float[3];
        float stays = 3f / 10f;
        for (int tick = 1; tick <= 60; tick++) {
            float a = 97f + stock[0] * stays * (1f / 10f);
            float b = 89f + stock[0] * stays * (3f / 10f);
            b = b + stock[1] * stays * (2f / 10f);
            float c = 83f + stock[0] * stays * (6f / 10f);
            c = c + stock[1] * stays * (8f / 10f);
            c = c + stock[2] * stays * (10f / 10f);
            stock = new float[] {a, b, c};
            x.run(1);
            for (int k = 0; k < 3; k++) {
                due("stock(" + k + ") behind " + tick, x.stock(k), bits(stock[k]));
            }
        }
    }

    private static void leastFloats() {
        sentence = "STOCK of a CLASS, as its float bits (the least ones, and 0):";
        CrusherLoops x = withFeeds("55;X", 2, 10, 64);
        x.run(1);
        due("stock(0)", x.stock(0), bits(64f));
        x.feed(0, 0);
        float stock = 64f;
        for (int halved = 1; halved <= 157; halved++) {
            stock = stock * (5f / 10f);
            x.run(1);
            due("stock(0), halved " + halved + " times", x.stock(0), bits(stock));
            due("missed(0)", x.missed(0), bits((double) stock));
            least(x, halved);
        }
    }

    private static void least(CrusherLoops x, int halved) {
        switch (halved) {
            case 132:
                due("the least float with all its figures", x.stock(0), 0x00800000);
                break;
            case 133:
                due("the first float with fewer figures", x.stock(0), 0x00400000);
                break;
            case 155:
                due("the least float", x.stock(0), 1);
                break;
            case 156:
                due("half of the least float", x.stock(0), 0);
                break;
            default:
        }
    }

    private static void greatestFloats() {
        sentence = "STOCK of a CLASS, as its float bits (the greatest ones):";
        CrusherLoops x = withFeeds("X0;X", 1, 10, 99, 99);
        for (int call = 0; call < 100; call++) {
            x.run(50);
        }
        due("stock(0)", x.stock(0), bits(495000f));
        due("stock(1)", x.stock(1), bits(495000f));
        due("stocks()", x.stocks(), bits(990000.0));
        due("missed(0)", x.missed(0), NONE);
    }

    private static void missedFromBothSides() {
        sentence = "MISSED by a CLASS: as a double, the size of STOCK less LOAD:";
        CrusherLoops x = withFeeds("46;X", 8, 9, 50, 7);
        due("missed(0), empty", x.missed(0), bits(625.0 / 12.0));
        due("missed(1), empty", x.missed(1), bits(45.0 / 4.0));
        x.run(1);
        due("missed(0), below", x.missed(0), bits(625.0 / 12.0 - 50.0));
        x.feed(0, 0);
        due("missed(0), above", x.missed(0), bits(50.0));
        due("missed(2)", x.missed(2), UNKNOWN);
        due("missed(-1)", x.missed(-1), UNKNOWN);
        due("missed(LOW)", x.missed(LOW), UNKNOWN);
        due("missed(HIGH)", x.missed(HIGH), UNKNOWN);
        x = withFeeds("X0;X", 2, 10, 1, 3);
        x.run(2);
        due("missed(0), ENDLESS", x.missed(0), NONE);
        due("missed(1), by an ENDLESS one", x.missed(1), 0);
        x.set(0, 4);
        due("missed(0), not ENDLESS", x.missed(0), bits(1.0));
    }

    private static void missedByNothing() {
        sentence = "MISSED, by nothing:";
        CrusherLoops x = withFeeds(FIVE, 40, 10, 99, 1, 0, 7, 50);
        x.run(1);
        for (int k = 0; k < 5; k++) {
            due("missed(" + k + ")", x.missed(k), 0);
        }
        x = withTable(FIVE, 0, 1);
        for (int k = 0; k < 5; k++) {
            due("missed(" + k + "), nothing brought", x.missed(k), 0);
        }
    }

    private static void stocksAddedUp() {
        sentence = "stocks: STOCKS of all CLASSES, from CLASS 0 on, added up as doubles (0 at first):";
        due("stocks() of no TABLE", new CrusherLoops().stocks(), 0);
        CrusherLoops x = withFeeds(FIVE, 31, 7, 97, 13, 1, 0, 45);
        due("stocks(), empty", x.stocks(), 0);
        for (int n = 1; n <= 50; n++) {
            x.run(n);
            double sum = 0;
            for (int k = 0; k < 5; k++) {
                sum += (double) Float.intBitsToFloat(x.stock(k));
            }
            due("stocks()", x.stocks(), bits(sum));
        }
        x.empty();
        due("stocks(), emptied", x.stocks(), 0);
    }

    // ---- digest

    /** As the document says it, by numbers of any length, cut to a long at the very end. */
    private static BigInteger hash(long... numbers) {
        BigInteger h = BigInteger.valueOf(1693);
        for (long number : numbers) {
            h = h.multiply(BigInteger.valueOf(31)).add(BigInteger.valueOf(number));
        }
        return h;
    }

    private static void digestOfNoTable() {
        sentence = "digest, no TABLE:";
        CrusherLoops x = new CrusherLoops();
        due("digest()", x.digest(), hash(0, 0, 0, 8, 9, 0, 0, 0).longValueExact());
        x.letter(126);
        due("digest() of a letter", x.digest(), hash(0, 126, 1, 0, 8, 9, 0, 0, 0).longValueExact());
        x.blank();
        due("digest() behind blank()", x.digest(), hash(0, 0, 0, 8, 9, 0, 0, 0).longValueExact());
    }

    private static void digestOfAFullPage() {
        sentence = "digest, a full PAGE:";
        long[] numbers = new long[38];
        for (int i = 0; i < 30; i++) {
            numbers[1 + i] = THIRTY.charAt(i);
        }
        long[] counted = {30, 0, 8, 9, 0, 0, 0};
        System.arraycopy(counted, 0, numbers, 31, 7);
        CrusherLoops x = page(THIRTY);
        due("digest()", x.digest(), hash(numbers).longValue());
        x.letter(48);
        due("digest() behind FULL", x.digest(), hash(numbers).longValue());
    }

    /** What the document tells, in its order, by the very calls that it names. */
    private static long byItsCalls(CrusherLoops x, String page) {
        List<Long> told = new ArrayList<>();
        int classes = x.count(1);
        for (int k = 0; k < classes; k++) {
            for (int what : new int[] {0, 1, 2, 10, 11, 12, 13, 14}) {
                told.add((long) x.size(k, what));
            }
            for (int what = 0; what <= 5; what++) {
                told.add(x.load(k, what));
            }
            told.add((long) x.stock(k));
            told.add(x.missed(k));
        }
        for (int what = 0; what <= 7 && classes > 0; what++) {
            told.add(x.all(what));
        }
        if (x.at(50, 0) != STATE) {
            for (int k = 0; k < classes; k++) {
                told.add(x.finer(k, 0));
                told.add(x.finer(k, 1));
            }
            for (int percent : new int[] {20, 50, 80, 100}) {
                told.add(x.at(percent, 0));
                told.add(x.at(percent, 1));
            }
        }
        for (int k = 0; k < classes; k++) {
            told.add((long) x.widest(k, 50));
        }
        told.add(x.stocks());
        page.chars().forEach(code -> told.add((long) code));
        for (int what = 0; what <= 6; what++) {
            told.add((long) x.count(what));
        }
        return hash(told.stream().mapToLong(number -> number).toArray()).longValue();
    }

    private static void digestByItsCalls() {
        sentence = "digest: each of these numbers, in order:";
        due("digest() of a new one", new CrusherLoops().digest(), byItsCalls(new CrusherLoops(), ""));
        due("digest() of a full PAGE", page(THIRTY).digest(), byItsCalls(page(THIRTY), THIRTY));
        int[][] feeds = {{0, 0}, {1, 1}, {51, 49}, {49, 51}, {20, 80}, {80, 20}, {0, 99}, {99, 0}};
        for (int[] feed : feeds) {
            for (int gap = 0; gap <= 5; gap++) {
                CrusherLoops x = withFeeds("0X;X", gap, 10, feed);
                x.run(3);
                write(x, ";~");
                due("digest() by GAP " + gap, x.digest(), byItsCalls(x, ";~"));
                x = withFeeds("X0;X", gap, 1, feed);
                due("digest() by GAP " + gap, x.digest(), byItsCalls(x, ""));
            }
        }
        CrusherLoops x = withFeeds(FIVE, 31, 7, 95, 96, 97, 98, 99);
        x.run(50);
        write(x, THIRTY);
        due("digest() of five", x.digest(), byItsCalls(x, THIRTY));
        due("digest() again", x.digest(), byItsCalls(x, THIRTY));
    }

    private static void digestWraps() {
        sentence = "digest: 31 times h, and it (as longs, wrapping):";
        CrusherLoops x = new CrusherLoops();
        int negative = 0;
        int positive = 0;
        for (int many = 1; many <= 30; many++) {
            x.letter(96 + many);
            long[] numbers = new long[8 + many];
            for (int i = 0; i < many; i++) {
                numbers[1 + i] = 97 + i;
            }
            long[] counted = {many, 0, 8, 9, 0, 0, 0};
            System.arraycopy(counted, 0, numbers, 1 + many, 7);
            BigInteger whole = hash(numbers);
            due("digest() of " + many + " letters", x.digest(), whole.longValue());
            if (whole.bitLength() > 63) {
                negative += whole.longValue() < 0 ? 1 : 0;
                positive += whole.longValue() > 0 ? 1 : 0;
            }
        }
        due("it wraps to both sides", negative > 0 && positive > 0 ? 1 : 0, 1);
        x = withFeeds("0X;X", 8, 9, 10);
        x.run(2);
        x.letter('5');
        long missed = bits(10.0 / 9.0 - 1.0);
        due("digest() of what leaves", x.digest(), hash(
                4, 10, 9, 0, 10, -1, -1, -1, 10, 1, 9, 1, 1, 1, 0x41200000, 0,
                2, 0, 9, 0, 10, -1, -1, -1, 10, 9, 1, 1, 1, 9, 0x3f800000, missed,
                100, 9, 10, 1, 10, 9, 10, 0, 100, 1, 10, 1, 20, 9, 26, 9, 32, 9, 4, 1, 40, 3,
                bits(11.0), 53, 1, 2, 8, 9, 2, 2, 1).longValue());
    }
}
