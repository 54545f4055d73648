// Each sentence of promises 1 to 21 that names a boundary case (too small, too large, empty, full, a wrap-around, a
// refused call), with a test of its own. What does not hold is printed with the promise and the sentence.
public final class BoundariesTest {
    private static final int INT = 0;
    private static final int LONG = 1;
    private static final int FLOAT = 2;
    private static final int DOUBLE = 3;

    private static final int LEAST_INT = Integer.MIN_VALUE;
    private static final int GREATEST_INT = Integer.MAX_VALUE;
    private static final long LEAST_LONG = Long.MIN_VALUE;
    private static final long GREATEST_LONG = Long.MAX_VALUE;
    private static final double INFINITE = Double.POSITIVE_INFINITY;
    private static final float LEAST_FLOAT = Float.MIN_VALUE;
    private static final float GREATEST_FLOAT = Float.MAX_VALUE;
    private static final double LEAST_DOUBLE = Double.MIN_VALUE;
    private static final double GREATEST_DOUBLE = Double.MAX_VALUE;
    private static final long NO_FLOAT = 0x7F800001L;
    private static final long NO_DOUBLE = 0x7FF0000000000001L;
    private static final int[] NO_SLOTS = {-1, 16, LEAST_INT, GREATEST_INT};

    private static final String NO_SLOT = "-2 a slot that is told is none";
    private static final String TAKEN_EMPTY = "-3 a slot that is taken is EMPTY";

    private static final int HULL = 0;
    private static final int MEET = 1;
    private static final int SIZE = 2;
    private static final int ROUND = 3;
    private static final int SIGN = 4;
    private static final int LEND = 5;
    private static final int TURN = 6;
    private static final int AS = 7;

    private static String sentence = "";
    private static int wrong = 0;

    private static void of(String promise, String words) {
        sentence = promise + ", '" + words + "'";
    }

    private static void due(String call, long got, long want) {
        if (got != want) {
            wrong++;
            System.out.println(sentence + ": " + call + " answered " + got + ", due is " + want);
        }
    }

    private static void dueRange(String told, StretchDesk x, int slot, int sort, long low, long high) {
        due(told + ": sort", x.sort(slot), sort);
        due(told + ": low", x.low(slot), low);
        due(told + ": high", x.high(slot), high);
    }

    private static void dueEmpty(String told, StretchDesk x, int slot) {
        due(told + ": EMPTY", x.sort(slot), -3);
    }

    private static long d(double v) {
        return Double.doubleToRawLongBits(v);
    }

    private static long f(double v) {
        return Float.floatToRawIntBits((float) v);
    }

    /** The bits of v in a broken SORT. */
    private static long b(int sort, double v) {
        return sort == FLOAT ? f(v) : d(v);
    }

    private static StretchDesk with(int sort, long low, long high) {
        StretchDesk x = new StretchDesk();
        due("set", x.set(0, sort, low, high), 1);
        return x;
    }

    private static StretchDesk withTwo(int sort, long low, long high, long low1, long high1) {
        StretchDesk x = with(sort, low, high);
        due("set", x.set(1, sort, low1, high1), 1);
        return x;
    }

    /** Slots 0 to 3 have a range of SORT 0 to 3, of which 1 is the HIGH end. */
    private static StretchDesk withEachSort() {
        StretchDesk x = new StretchDesk();
        x.set(INT, INT, 0, 1);
        x.set(LONG, LONG, 0, 1);
        x.set(FLOAT, FLOAT, f(0), f(1));
        x.set(DOUBLE, DOUBLE, d(0), d(1));
        return x;
    }

    private static int did(StretchDesk x, int what, int a, int b, int to) {
        switch (what) {
            case HULL: return x.hull(a, b, to);
            case MEET: return x.meet(a, b, to);
            case SIZE: return x.size(a, to);
            case ROUND: return x.round(a, b, to);
            case SIGN: return x.sign(a, to);
            case LEND: return x.lend(a, b, to);
            case TURN: return x.turn(a, to);
            default: return x.as(a, b, to);
        }
    }

    /** Done of slot 0 (and b) to slot 9, where another range is. */
    private static void dueDone(StretchDesk x, int what, int b, int sort, long low, long high) {
        x.set(9, LONG, 40, 41);
        String told = "what " + what + " of " + x.low(0) + " .. " + x.high(0);
        due(told, did(x, what, 0, b, 9), 1);
        dueRange(told, x, 9, sort, low, high);
    }

    private static void dueTwoSortsRefused(int what) {
        for (int a = INT; a <= DOUBLE; a++) {
            for (int b = INT; b <= DOUBLE; b++) {
                if (a != b) {
                    StretchDesk x = withEachSort();
                    due("SORTS " + a + " and " + b, did(x, what, a, b, 9), -4);
                    due("SORTS " + a + " and " + b + ": state", x.state(), -4);
                    dueEmpty("SORTS " + a + " and " + b, x, 9);
                }
            }
        }
    }

    private static void dueWholeSortsRefused(int what) {
        StretchDesk x = withEachSort();
        for (int slot = INT; slot <= DOUBLE; slot++) {
            int b = takesTwo(what) ? slot : 0;
            boolean isWhole = slot == INT || slot == LONG;
            due("SORT " + slot, did(x, what, slot, b, 9), isWhole ? -4 : 1);
            due("SORT " + slot + ": state", x.state(), isWhole ? -4 : 0);
            due("SORT " + slot + ": slot to", x.sort(9), isWhole ? -3 : slot);
        }
    }

    private static boolean takesTwo(int what) {
        return what == HULL || what == MEET || what == LEND;
    }

    private static void dueRefused(String call, StretchDesk x, long got, long want, int code) {
        due(call, got, want);
        due(call + ": state", x.state(), code);
    }

    private static void promise1Slots() {
        of("Promise 1", "All slots EMPTY");
        StretchDesk x = new StretchDesk();
        due("about 0", x.about(0), 0);
        for (int slot = 0; slot < 16; slot++) {
            dueEmpty("slot " + slot, x, slot);
        }
        with(INT, 1, 2);
        dueEmpty("slot 0, after another object's", x, 0);
    }

    private static void promise1Chain() {
        of("Promise 1", "the chain without steps");
        StretchDesk x = new StretchDesk();
        due("about 1", x.about(1), 0);
        x.set(0, INT, 1, 2);
        for (int k = 0; k < 12; k++) {
            due("run from " + k, x.run(k, 12), 0);
            due("run from " + k + ": state", x.state(), 0);
        }
        due("about 4", x.about(4), 0);
        due("slots that came", x.about(0), 1);
    }

    private static void promise2Comes() {
        of("Promise 2", "A RANGE comes to a slot: 1");
        StretchDesk x = new StretchDesk();
        due("first slot", x.set(0, INT, LEAST_INT, GREATEST_INT), 1);
        due("last slot", x.set(15, LONG, LEAST_LONG, GREATEST_LONG), 1);
        due("over another", x.set(0, DOUBLE, d(-INFINITE), d(INFINITE)), 1);
        due("one number", x.set(14, FLOAT, f(-0.0), f(-0.0)), 1);
        due("the least ones", x.set(1, DOUBLE, d(-LEAST_DOUBLE), d(LEAST_DOUBLE)), 1);
        dueRange("over another", x, 0, DOUBLE, d(-INFINITE), d(INFINITE));
        dueRange("last slot", x, 15, LONG, LEAST_LONG, GREATEST_LONG);
        dueRange("one number", x, 14, FLOAT, f(-0.0), f(-0.0));
        dueRange("the least ones", x, 1, DOUBLE, d(-LEAST_DOUBLE), d(LEAST_DOUBLE));
    }

    private static void promise2NoSuchSort() {
        of("Promise 2", "-4: there is no such SORT");
        StretchDesk x = with(INT, 1, 2);
        for (int sort : new int[] {-1, 4, LEAST_INT, GREATEST_INT}) {
            due("set " + sort, x.set(0, sort, 5, 6), -4);
            due("set " + sort + ": state", x.state(), -4);
        }
        dueRange("refused", x, 0, INT, 1, 2);
    }

    private static void promise2NotANumber() {
        of("Promise 2", "or one of both is not a number");
        StretchDesk x = with(INT, 1, 2);
        due("low, FLOAT", x.set(0, FLOAT, NO_FLOAT, f(INFINITE)), -4);
        due("high, FLOAT", x.set(0, FLOAT, f(1), NO_FLOAT), -4);
        due("low, FLOAT below 0", x.set(0, FLOAT, f(-INFINITE) + 1, f(1)), -4);
        due("both, FLOAT", x.set(0, FLOAT, -1, GREATEST_INT), -4);
        due("low, DOUBLE", x.set(0, DOUBLE, NO_DOUBLE, d(INFINITE)), -4);
        due("high, DOUBLE", x.set(0, DOUBLE, d(1), NO_DOUBLE), -4);
        due("low, DOUBLE below 0", x.set(0, DOUBLE, d(-INFINITE) + 1, d(1)), -4);
        due("both, DOUBLE", x.set(0, DOUBLE, -1, GREATEST_LONG), -4);
        dueRange("refused", x, 0, INT, 1, 2);
        due("INT by the same bits", x.set(0, INT, NO_FLOAT, NO_FLOAT), 1);
        due("LONG by the same bits", x.set(0, LONG, NO_DOUBLE, NO_DOUBLE), 1);
        due("DOUBLE by a FLOAT's bits", x.set(0, DOUBLE, NO_FLOAT, NO_FLOAT), 1);
        due("FLOAT by lowest bits that are a number", x.set(0, FLOAT, NO_DOUBLE, NO_DOUBLE), 1);
    }

    private static void promise2UpsideDown() {
        of("Promise 2", "-5: low is greater than high");
        StretchDesk x = with(INT, 1, 2);
        due("INT by one", x.set(0, INT, 3, 2), -5);
        due("INT greatest .. least", x.set(0, INT, GREATEST_INT, LEAST_INT), -5);
        due("INT by its lowest bits", x.set(0, INT, 0, 0xFFFF_FFFFL), -5);
        due("LONG by one", x.set(0, LONG, -1, -2), -5);
        due("LONG greatest .. least", x.set(0, LONG, GREATEST_LONG, LEAST_LONG), -5);
        due("FLOAT 0 .. -0", x.set(0, FLOAT, f(0.0), f(-0.0)), -5);
        due("FLOAT below 0", x.set(0, FLOAT, f(-1), f(-1) + 1), -5);
        due("DOUBLE 0 .. -0", x.set(0, DOUBLE, d(0.0), d(-0.0)), -5);
        due("DOUBLE below 0", x.set(0, DOUBLE, d(-1), d(-1) + 1), -5);
        due("DOUBLE infinities", x.set(0, DOUBLE, d(INFINITE), d(-INFINITE)), -5);
        due("state", x.state(), -5);
        dueRange("refused", x, 0, INT, 1, 2);
        due("LONG by the bits that no INT has", x.set(0, LONG, 0, 0xFFFF_FFFFL), 1);
    }

    private static void promise3Empty() {
        of("Promise 3", "The slot is EMPTY: 1");
        StretchDesk x = with(INT, 1, 2);
        x.set(15, DOUBLE, d(1), d(2));
        due("clear 0", x.clear(0), 1);
        dueEmpty("clear 0", x, 0);
        due("slots left", x.about(0), 1);
        due("clear 15", x.clear(15), 1);
        dueEmpty("clear 15", x, 15);
        due("set again", x.set(0, LONG, 8, 9), 1);
        dueRange("set again", x, 0, LONG, 8, 9);
    }

    private static void promise3WasEmpty() {
        of("Promise 3", "or 0 if it was");
        StretchDesk x = new StretchDesk();
        due("clear at first", x.clear(0), 0);
        due("clear at first: state", x.state(), 0);
        x.set(0, INT, 1, 2);
        x.clear(0);
        due("clear again", x.clear(0), 0);
        due("clear again: state", x.state(), 0);
        due("it is not REFUSED", x.about(2), 0);
    }

    private static void promise4Sort() {
        of("Promise 4", "Its SORT");
        StretchDesk x = withEachSort();
        for (int slot = 0; slot < 4; slot++) {
            due("sort " + slot, x.sort(slot), slot);
            due("sort " + slot + ": state", x.state(), 0);
        }
    }

    private static void promise5Low() {
        of("Promise 5", "Its LOW end");
        StretchDesk x = with(LONG, LEAST_LONG, GREATEST_LONG);
        due("low", x.low(0), LEAST_LONG);
        due("low: state", x.state(), 0);
    }

    private static void promise6High() {
        of("Promise 6", "Its HIGH end");
        StretchDesk x = with(LONG, LEAST_LONG, GREATEST_LONG);
        due("high", x.high(0), GREATEST_LONG);
        due("high: state", x.state(), 0);
    }

    private static void promise7Least() {
        of("Promise 7", "The least RANGE that has both comes to slot to: 1");
        dueDone(withTwo(INT, -5, 3, 10, 12), HULL, 1, INT, -5, 12);
        dueDone(withTwo(INT, 10, 12, -5, 3), HULL, 1, INT, -5, 12);
        dueDone(withTwo(INT, -5, 12, 3, 3), HULL, 1, INT, -5, 12);
        dueDone(withTwo(INT, 3, 3, -5, 12), HULL, 1, INT, -5, 12);
        dueDone(withTwo(LONG, LEAST_LONG, LEAST_LONG, GREATEST_LONG, GREATEST_LONG), HULL, 1, LONG,
                LEAST_LONG, GREATEST_LONG);
        dueDone(withTwo(FLOAT, f(0.0), f(0.0), f(-0.0), f(-0.0)), HULL, 1, FLOAT, f(-0.0), f(0.0));
        dueDone(withTwo(DOUBLE, d(-2), d(-1), d(-4), d(-3)), HULL, 1, DOUBLE, d(-4), d(-1));
        dueDone(withTwo(DOUBLE, d(-INFINITE), d(-0.0), d(1), d(INFINITE)), HULL, 1, DOUBLE, d(-INFINITE), d(INFINITE));
        dueDone(with(INT, 7, 8), HULL, 0, INT, 7, 8);
    }

    private static void promise7TwoSorts() {
        of("Promise 7", "-4: two SORTS");
        dueTwoSortsRefused(HULL);
    }

    private static void promise8InBoth() {
        of("Promise 8", "What is in both comes there: 1");
        dueDone(withTwo(INT, -5, 3, 3, 12), MEET, 1, INT, 3, 3);
        dueDone(withTwo(INT, 3, 12, -5, 3), MEET, 1, INT, 3, 3);
        dueDone(withTwo(LONG, LEAST_LONG, GREATEST_LONG, 0, 0), MEET, 1, LONG, 0, 0);
        dueDone(withTwo(FLOAT, f(-1), f(0.0), f(-0.0), f(1)), MEET, 1, FLOAT, f(-0.0), f(0.0));
        dueDone(withTwo(DOUBLE, d(-4), d(-2), d(-3), d(-1)), MEET, 1, DOUBLE, d(-3), d(-2));
        dueDone(withTwo(DOUBLE, d(-INFINITE), d(INFINITE), d(INFINITE), d(INFINITE)), MEET, 1, DOUBLE,
                d(INFINITE), d(INFINITE));
    }

    private static void promise8InNone() {
        of("Promise 8", "0, and it is EMPTY, if there is none");
        dueMeetInNone(withTwo(INT, -5, 3, 4, 12));
        dueMeetInNone(withTwo(INT, 4, 12, -5, 3));
        dueMeetInNone(withTwo(LONG, LEAST_LONG, LEAST_LONG, LEAST_LONG + 1, GREATEST_LONG));
        dueMeetInNone(withTwo(FLOAT, f(-1), f(-0.0), f(0.0), f(1)));
        dueMeetInNone(withTwo(DOUBLE, d(0.0), d(1), d(-1), d(-0.0)));
        dueMeetInNone(withTwo(DOUBLE, d(-INFINITE), d(GREATEST_DOUBLE), d(INFINITE), d(INFINITE)));
    }

    private static void dueMeetInNone(StretchDesk x) {
        x.set(9, LONG, 40, 41);
        due("meet", x.meet(0, 1, 9), 0);
        due("meet: state", x.state(), 0);
        dueEmpty("meet", x, 9);
        due("meet to EMPTY", x.meet(0, 1, 9), 0);
        due("the others stay", x.about(0), 2);
        due("meet to what is taken", x.meet(0, 1, 1), 0);
        dueEmpty("meet to what is taken", x, 1);
    }

    private static void promise8TwoSorts() {
        of("Promise 8", "-4: two SORTS");
        dueTwoSortsRefused(MEET);
    }

    private static void promise9LowNotBelow() {
        of("Promise 9", "if LOW is not below 0 the sizes of both ends");
        dueDone(with(INT, 3, 5), SIZE, 0, INT, 3, 5);
        dueDone(with(INT, 0, 5), SIZE, 0, INT, 0, 5);
        dueDone(with(LONG, 1, GREATEST_LONG), SIZE, 0, LONG, 1, GREATEST_LONG);
        dueDone(with(FLOAT, f(LEAST_FLOAT), f(2)), SIZE, 0, FLOAT, f(LEAST_FLOAT), f(2));
        dueDone(with(DOUBLE, d(2), d(INFINITE)), SIZE, 0, DOUBLE, d(2), d(INFINITE));
    }

    private static void promise9HighNotAbove() {
        of("Promise 9", "if HIGH is not above 0, too");
        dueDone(with(INT, -5, -3), SIZE, 0, INT, 3, 5);
        dueDone(with(INT, -5, 0), SIZE, 0, INT, 0, 5);
        dueDone(with(LONG, -GREATEST_LONG, -1), SIZE, 0, LONG, 1, GREATEST_LONG);
        dueDone(with(FLOAT, f(-2), f(-LEAST_FLOAT)), SIZE, 0, FLOAT, f(LEAST_FLOAT), f(2));
        dueDone(with(DOUBLE, d(-INFINITE), d(-2)), SIZE, 0, DOUBLE, d(2), d(INFINITE));
    }

    private static void promise9Across() {
        of("Promise 9", "else 0 and the greater one of both sizes");
        dueDone(with(INT, -5, 3), SIZE, 0, INT, 0, 5);
        dueDone(with(INT, -3, 5), SIZE, 0, INT, 0, 5);
        dueDone(with(INT, -1, 1), SIZE, 0, INT, 0, 1);
        dueDone(with(LONG, LEAST_INT, 1), SIZE, 0, LONG, 0, 1L << 31);
        dueDone(with(LONG, -GREATEST_LONG, 1), SIZE, 0, LONG, 0, GREATEST_LONG);
        dueDone(with(FLOAT, f(-3), f(LEAST_FLOAT)), SIZE, 0, FLOAT, f(0.0), f(3));
        dueDone(with(FLOAT, f(-LEAST_FLOAT), f(3)), SIZE, 0, FLOAT, f(0.0), f(3));
        dueDone(with(DOUBLE, d(-INFINITE), d(1)), SIZE, 0, DOUBLE, d(0.0), d(INFINITE));
    }

    private static void promise9Ordered() {
        of("Promise 9", "ORDERED: 1");
        dueDone(with(LONG, -9, -9), SIZE, 0, LONG, 9, 9);
        dueDone(with(LONG, -9, -8), SIZE, 0, LONG, 8, 9);
        dueDone(with(INT, LEAST_INT, -1), SIZE, 0, INT, LEAST_INT, 1);
        dueDone(with(DOUBLE, d(-9), d(-8)), SIZE, 0, DOUBLE, d(8), d(9));
    }

    private static void promise9Zeros() {
        of("Promise 9", "Either zero is not below and not above 0");
        for (int sort = FLOAT; sort <= DOUBLE; sort++) {
            dueDone(with(sort, b(sort, -0.0), b(sort, 2)), SIZE, 0, sort, b(sort, 0.0), b(sort, 2));
            dueDone(with(sort, b(sort, 0.0), b(sort, 2)), SIZE, 0, sort, b(sort, 0.0), b(sort, 2));
            dueDone(with(sort, b(sort, -2), b(sort, -0.0)), SIZE, 0, sort, b(sort, 0.0), b(sort, 2));
            dueDone(with(sort, b(sort, -2), b(sort, 0.0)), SIZE, 0, sort, b(sort, 0.0), b(sort, 2));
        }
        // Here the sizes of both ends differ from what 0 and the greater one would be.
        dueDone(with(INT, LEAST_INT, 0), SIZE, 0, INT, LEAST_INT, 0);
        dueDone(with(LONG, LEAST_LONG, 0), SIZE, 0, LONG, LEAST_LONG, 0);
    }

    private static void promise9NoSign() {
        of("Promise 9", "A size has no sign");
        for (int sort = FLOAT; sort <= DOUBLE; sort++) {
            dueDone(with(sort, b(sort, -0.0), b(sort, -0.0)), SIZE, 0, sort, b(sort, 0.0), b(sort, 0.0));
            dueDone(with(sort, b(sort, -0.0), b(sort, 0.0)), SIZE, 0, sort, b(sort, 0.0), b(sort, 0.0));
            dueDone(with(sort, b(sort, -INFINITE), b(sort, -INFINITE)), SIZE, 0, sort,
                    b(sort, INFINITE), b(sort, INFINITE));
        }
    }

    private static void promise9Least() {
        of("Promise 9", "that of the least INT or LONG is that number itself");
        dueDone(with(INT, LEAST_INT, LEAST_INT), SIZE, 0, INT, LEAST_INT, LEAST_INT);
        dueDone(with(INT, LEAST_INT, -3), SIZE, 0, INT, LEAST_INT, 3);
        dueDone(with(INT, LEAST_INT, 3), SIZE, 0, INT, 0, 3);
        dueDone(with(INT, LEAST_INT + 1, 3), SIZE, 0, INT, 0, GREATEST_INT);
        dueDone(with(LONG, LEAST_INT, -3), SIZE, 0, LONG, 3, 1L << 31);
        dueDone(with(LONG, LEAST_LONG, LEAST_LONG), SIZE, 0, LONG, LEAST_LONG, LEAST_LONG);
        dueDone(with(LONG, LEAST_LONG, -3), SIZE, 0, LONG, LEAST_LONG, 3);
        dueDone(with(LONG, LEAST_LONG, 3), SIZE, 0, LONG, 0, 3);
        dueDone(with(LONG, LEAST_LONG + 1, 3), SIZE, 0, LONG, 0, GREATEST_LONG);
    }

    private static void dueRound(int how, double low, double high, double wantLow, double wantHigh) {
        for (int sort = FLOAT; sort <= DOUBLE; sort++) {
            dueDone(with(sort, b(sort, low), b(sort, high)), ROUND, how, sort, b(sort, wantLow), b(sort, wantHigh));
        }
    }

    private static void promise10Down() {
        of("Promise 10", "how 0 both down");
        dueRound(0, -1.25, 1.75, -2, 1);
        dueRound(0, -0.25, 0.75, -1, 0);
        dueRound(0, -LEAST_FLOAT, LEAST_FLOAT, -1, 0);
        dueRound(0, -4194303.5, 4194303.5, -4194304, 4194303);
    }

    private static void promise10Up() {
        of("Promise 10", "1 both up");
        dueRound(1, -1.75, 1.25, -1, 2);
        dueRound(1, 0.25, 0.75, 1, 1);
        dueRound(1, LEAST_FLOAT, 1.5, 1, 2);
        dueRound(1, -4194303.5, 4194303.5, -4194303, 4194304);
    }

    private static void promise10Nearest() {
        of("Promise 10", "2 both to the nearest, halves to even");
        dueRound(2, 0.5, 1.5, 0, 2);
        dueRound(2, 2.5, 3.5, 2, 4);
        dueRound(2, -3.5, -2.5, -4, -2);
        dueRound(2, -1.5, -0.75, -2, -1);
        dueRound(2, 1.25, 1.75, 1, 2);
        dueRound(2, -1.75, -1.25, -2, -1);
        dueRound(2, 8388606.5, 8388607.5, 8388606, 8388608);
        dueDone(with(FLOAT, f(0.5) - 1, f(0.5) + 1), ROUND, 2, FLOAT, f(0), f(1));
        dueDone(with(FLOAT, f(1.5) - 1, f(2.5) + 1), ROUND, 2, FLOAT, f(1), f(3));
        dueDone(with(DOUBLE, d(0.5) - 1, d(0.5) + 1), ROUND, 2, DOUBLE, d(0), d(1));
        dueDone(with(DOUBLE, d(1.5) - 1, d(2.5) + 1), ROUND, 2, DOUBLE, d(1), d(3));
        dueDone(with(DOUBLE, d(0x1p52 - 1.5), d(0x1p52 - 0.5)), ROUND, 2, DOUBLE, d(0x1p52 - 2), d(0x1p52));
    }

    private static void promise10Outward() {
        of("Promise 10", "3 LOW down and HIGH up");
        dueRound(3, -1.25, 1.25, -2, 2);
        dueRound(3, 0.25, 0.75, 0, 1);
        dueRound(3, -0.75, -0.25, -1, -0.0);
        dueRound(3, 1.75, 1.75, 1, 2);
    }

    private static void promise10Inward() {
        of("Promise 10", "4 LOW up and HIGH down");
        dueRound(4, -1.75, 1.75, -1, 1);
        dueRound(4, 0.25, 1.25, 1, 1);
        dueRound(4, -0.75, 0.75, -0.0, 0.0);
        dueRound(4, -1.25, -1, -1, -1);
    }

    private static void promise10None() {
        of("Promise 10", "0, and slot to is EMPTY, if LOW is greater than HIGH then");
        for (int sort = FLOAT; sort <= DOUBLE; sort++) {
            double[][] none = {{0.25, 0.75}, {-0.75, -0.25}, {1.25, 1.25}, {LEAST_FLOAT, LEAST_FLOAT}, {-3.5, -3.25}};
            for (double[] c : none) {
                StretchDesk x = withTwo(sort, b(sort, c[0]), b(sort, c[1]), 0, 0);
                due("round " + c[0], x.round(0, 4, 1), 0);
                due("round " + c[0] + ": state", x.state(), 0);
                dueEmpty("round " + c[0], x, 1);
                due("round onto itself", x.round(0, 4, 0), 0);
                dueEmpty("round onto itself", x, 0);
            }
        }
    }

    private static void promise10MinusZero() {
        of("Promise 10", "What is between 0 and -1 or is -0, comes to -0 as it goes up or is nearest to it");
        dueRound(1, -0.75, -0.25, -0.0, -0.0);
        dueRound(1, -LEAST_FLOAT, -0.0, -0.0, -0.0);
        dueRound(1, -1, -0.5, -1, -0.0);
        dueRound(2, -0.5, -0.25, -0.0, -0.0);
        dueRound(2, -LEAST_FLOAT, -0.0, -0.0, -0.0);
        dueRound(3, -0.0, -0.0, -0.0, -0.0);
        dueRound(4, -0.75, -0.0, -0.0, -0.0);
        dueDone(with(FLOAT, f(-1) - 1, f(-1) - 1), ROUND, 1, FLOAT, f(-0.0), f(-0.0));
        dueDone(with(DOUBLE, d(-1) - 1, d(-1) - 1), ROUND, 1, DOUBLE, d(-0.0), d(-0.0));
        dueDone(with(DOUBLE, d(-LEAST_DOUBLE), d(LEAST_DOUBLE)), ROUND, 2, DOUBLE, d(-0.0), d(0.0));
    }

    private static void promise10Stays() {
        of("Promise 10", "what is whole or infinite stays");
        double[][] whole = {{-INFINITE, INFINITE}, {-GREATEST_FLOAT, GREATEST_FLOAT}, {-1, 1}, {-0.0, 0.0}, {-7, 4},
            {0x1p22, 0x1p23}, {-0x1p24 + 1, 0x1p24 - 1}, {-0x1p60, 0x1p61}};
        for (int how = 0; how <= 4; how++) {
            for (double[] c : whole) {
                dueRound(how, c[0], c[1], c[0], c[1]);
            }
            dueDone(with(DOUBLE, d(-GREATEST_DOUBLE), d(0x1p53 - 1)), ROUND, how, DOUBLE,
                    d(-GREATEST_DOUBLE), d(0x1p53 - 1));
            dueDone(with(DOUBLE, d(0x1p51), d(0x1p52 + 1)), ROUND, how, DOUBLE, d(0x1p51), d(0x1p52 + 1));
        }
    }

    private static void promise10Refused() {
        of("Promise 10", "-4: INT and LONG");
        dueWholeSortsRefused(ROUND);
        of("Promise 10", "-5: another how");
        for (int how : new int[] {-1, 5, LEAST_INT, GREATEST_INT}) {
            StretchDesk x = with(FLOAT, f(0.25), f(1.75));
            due("how " + how, x.round(0, how, 0), -5);
            due("how " + how + ": state", x.state(), -5);
            dueRange("how " + how, x, 0, FLOAT, f(0.25), f(1.75));
        }
    }

    private static void dueSign(double low, double high, double wantLow, double wantHigh) {
        for (int sort = FLOAT; sort <= DOUBLE; sort++) {
            dueDone(with(sort, b(sort, low), b(sort, high)), SIGN, 0, sort, b(sort, wantLow), b(sort, wantHigh));
        }
    }

    private static void promise11Units() {
        of("Promise 11", "Each end becomes -1, 1, or the zero that it is, by its sign: 1");
        dueSign(-7.5, 0.25, -1, 1);
        dueSign(-INFINITE, INFINITE, -1, 1);
        dueSign(-LEAST_FLOAT, LEAST_FLOAT, -1, 1);
        dueSign(-3, -2, -1, -1);
        dueSign(2, 3, 1, 1);
        dueSign(-0.0, 0.0, -0.0, 0.0);
        dueSign(-0.0, -0.0, -0.0, -0.0);
        dueSign(0.0, 9, 0.0, 1);
        dueSign(-9, -0.0, -1, -0.0);
        dueDone(with(DOUBLE, d(-LEAST_DOUBLE), d(LEAST_DOUBLE)), SIGN, 0, DOUBLE, d(-1), d(1));
    }

    private static void promise11Refused() {
        of("Promise 11", "-4: INT and LONG");
        dueWholeSortsRefused(SIGN);
    }

    private static void dueLend(double[] a, double[] signs, double wantLow, double wantHigh) {
        for (int sort = FLOAT; sort <= DOUBLE; sort++) {
            dueDone(withTwo(sort, b(sort, a[0]), b(sort, a[1]), b(sort, signs[0]), b(sort, signs[1])), LEND, 1, sort,
                    b(sort, wantLow), b(sort, wantHigh));
        }
    }

    private static void promise12Signs() {
        of("Promise 12", "LOW of a gets the sign that LOW of b has, HIGH that of HIGH");
        dueLend(new double[] {2, 3}, new double[] {-9, 9}, -2, 3);
        dueLend(new double[] {-3, 2}, new double[] {8, 9}, 2, 3);
        dueLend(new double[] {-INFINITE, INFINITE}, new double[] {1, 2}, INFINITE, INFINITE);
        dueLend(new double[] {-3, -2}, new double[] {-LEAST_FLOAT, INFINITE}, -3, 2);
    }

    private static void promise12Zeros() {
        of("Promise 12", "(zeros have signs, too)");
        dueLend(new double[] {2, 3}, new double[] {-0.0, 0.0}, -2, 3);
        dueLend(new double[] {-3, -2}, new double[] {-0.0, 0.0}, -3, 2);
        dueLend(new double[] {-3, 2}, new double[] {0.0, 0.0}, 2, 3);
        dueLend(new double[] {0.0, 0.0}, new double[] {-5, 5}, -0.0, 0.0);
        dueLend(new double[] {-0.0, 0.0}, new double[] {5, 6}, 0.0, 0.0);
        dueLend(new double[] {-0.0, 0.0}, new double[] {-0.0, -0.0}, -0.0, -0.0);
    }

    private static void promise12Ordered() {
        of("Promise 12", "ORDERED: 1");
        dueLend(new double[] {2, 3}, new double[] {-9, -8}, -3, -2);
        dueLend(new double[] {-3, -2}, new double[] {8, 9}, 2, 3);
        dueLend(new double[] {-3, 0.0}, new double[] {8, 9}, 0.0, 3);
    }

    private static void promise12Refused() {
        of("Promise 12", "-4: INT and LONG");
        dueWholeSortsRefused(LEND);
        of("Promise 12", "or two SORTS");
        dueTwoSortsRefused(LEND);
    }

    private static void promise13OtherSign() {
        of("Promise 13", "the ends get the other sign");
        dueDone(with(INT, 1, 1), TURN, 0, INT, -1, -1);
        dueDone(with(INT, GREATEST_INT, GREATEST_INT), TURN, 0, INT, -GREATEST_INT, -GREATEST_INT);
        dueDone(with(LONG, LEAST_INT, LEAST_INT), TURN, 0, LONG, 1L << 31, 1L << 31);
        dueDone(with(LONG, -GREATEST_LONG, -GREATEST_LONG), TURN, 0, LONG, GREATEST_LONG, GREATEST_LONG);
        for (int sort = FLOAT; sort <= DOUBLE; sort++) {
            dueDone(with(sort, b(sort, 0.0), b(sort, 0.0)), TURN, 0, sort, b(sort, -0.0), b(sort, -0.0));
            dueDone(with(sort, b(sort, -0.0), b(sort, -0.0)), TURN, 0, sort, b(sort, 0.0), b(sort, 0.0));
            dueDone(with(sort, b(sort, -INFINITE), b(sort, -INFINITE)), TURN, 0, sort,
                    b(sort, INFINITE), b(sort, INFINITE));
        }
    }

    private static void promise13Ordered() {
        of("Promise 13", "ORDERED: 1");
        dueDone(with(INT, -3, 5), TURN, 0, INT, -5, 3);
        dueDone(with(INT, 1, GREATEST_INT), TURN, 0, INT, -GREATEST_INT, -1);
        dueDone(with(LONG, LEAST_INT, 5), TURN, 0, LONG, -5, 1L << 31);
        dueDone(with(LONG, -GREATEST_LONG, -1), TURN, 0, LONG, 1, GREATEST_LONG);
        for (int sort = FLOAT; sort <= DOUBLE; sort++) {
            dueDone(with(sort, b(sort, -1), b(sort, 2)), TURN, 0, sort, b(sort, -2), b(sort, 1));
            dueDone(with(sort, b(sort, -0.0), b(sort, 0.0)), TURN, 0, sort, b(sort, -0.0), b(sort, 0.0));
            dueDone(with(sort, b(sort, 1), b(sort, INFINITE)), TURN, 0, sort, b(sort, -INFINITE), b(sort, -1));
        }
    }

    private static void promise13Stays() {
        of("Promise 13", "(the least INT or LONG stays, as 0 of these)");
        dueDone(with(INT, LEAST_INT, LEAST_INT), TURN, 0, INT, LEAST_INT, LEAST_INT);
        dueDone(with(INT, LEAST_INT, 5), TURN, 0, INT, LEAST_INT, -5);
        dueDone(with(INT, LEAST_INT, -5), TURN, 0, INT, LEAST_INT, 5);
        dueDone(with(INT, LEAST_INT, GREATEST_INT), TURN, 0, INT, LEAST_INT, -GREATEST_INT);
        dueDone(with(LONG, LEAST_LONG, LEAST_LONG), TURN, 0, LONG, LEAST_LONG, LEAST_LONG);
        dueDone(with(LONG, LEAST_LONG, GREATEST_LONG), TURN, 0, LONG, LEAST_LONG, -GREATEST_LONG);
        dueDone(with(LONG, LEAST_LONG, 0), TURN, 0, LONG, LEAST_LONG, 0);
        dueDone(with(INT, 0, 0), TURN, 0, INT, 0, 0);
        dueDone(with(LONG, 0, 7), TURN, 0, LONG, -7, 0);
    }

    private static void promise14Ordered() {
        of("Promise 14", "The ends become numbers of another SORT; ORDERED: 1");
        dueDone(with(INT, LEAST_INT, GREATEST_INT), AS, LONG, LONG, LEAST_INT, GREATEST_INT);
        dueDone(with(LONG, 1, 1L << 31), AS, INT, INT, LEAST_INT, 1);
        dueDone(with(LONG, -1, 1L << 32), AS, INT, INT, -1, 0);
        dueDone(with(FLOAT, f(-0.0), f(-0.0)), AS, DOUBLE, DOUBLE, d(-0.0), d(-0.0));
        dueDone(with(DOUBLE, d(-0.0), d(0.0)), AS, FLOAT, FLOAT, f(-0.0), f(0.0));
        dueDone(with(INT, 0, 1), AS, FLOAT, FLOAT, f(0.0), f(1));
        dueDone(with(FLOAT, f(-INFINITE), f(INFINITE)), AS, DOUBLE, DOUBLE, d(-INFINITE), d(INFINITE));
        dueDone(with(FLOAT, f(INFINITE), f(INFINITE)), AS, DOUBLE, DOUBLE, d(INFINITE), d(INFINITE));
        dueDone(with(FLOAT, f(-LEAST_FLOAT), f(GREATEST_FLOAT)), AS, DOUBLE, DOUBLE,
                d(-LEAST_FLOAT), d(GREATEST_FLOAT));
        for (int sort = INT; sort <= DOUBLE; sort++) {
            dueDone(with(sort, 5, 6), AS, sort, sort, 5, 6);
        }
    }

    private static void promise14Nearest() {
        of("Promise 14", "To FLOAT and DOUBLE: the nearest");
        dueDone(with(INT, LEAST_INT, GREATEST_INT), AS, FLOAT, FLOAT, f(-0x1p31), f(0x1p31));
        dueDone(with(INT, LEAST_INT, GREATEST_INT), AS, DOUBLE, DOUBLE, d(-0x1p31), d(0x1p31 - 1));
        dueDone(with(INT, -1, -1), AS, FLOAT, FLOAT, f(-1), f(-1));
        dueDone(with(LONG, -1, 0), AS, DOUBLE, DOUBLE, d(-1), d(0.0));
        for (int bits = 1; bits < 63; bits++) {
            dueDone(with(LONG, 1L << (bits - 1), 1L << bits), AS, FLOAT, FLOAT, f(1L << (bits - 1)), f(1L << bits));
            dueDone(with(LONG, 1L << (bits - 1), 1L << bits), AS, DOUBLE, DOUBLE, d(1L << (bits - 1)), d(1L << bits));
        }
        dueDone(with(INT, (1 << 24) - 1, (1 << 25) - 2), AS, FLOAT, FLOAT, f(0x1p24 - 1), f(0x1p25 - 2));
        dueDone(with(LONG, (1L << 53) - 1, (1L << 54) - 2), AS, DOUBLE, DOUBLE, d(0x1p53 - 1), d(0x1p54 - 2));
        dueDone(with(LONG, LEAST_LONG, GREATEST_LONG), AS, DOUBLE, DOUBLE, d(-0x1p63), d(0x1p63));
        dueDone(with(LONG, LEAST_LONG, GREATEST_LONG), AS, FLOAT, FLOAT, f(-0x1p63), f(0x1p63));
        // By way of a DOUBLE these would lose the 1 that lifts them above the half.
        long half = (1L << 60) + (1L << 36);
        dueDone(with(LONG, half - 1, half + 1), AS, FLOAT, FLOAT, f(0x1p60), f(0x1p60) + 1);
        dueDone(with(LONG, -half - 1, -half + 1), AS, FLOAT, FLOAT, f(-0x1p60) + 1, f(-0x1p60));
        dueDone(with(DOUBLE, d(1 + 0x1p-24) - 1, d(1 + 0x1p-24) + 1), AS, FLOAT, FLOAT, f(1), f(1) + 1);
        dueDone(with(DOUBLE, d(0x1p-150) - 1, d(0x1p-150) + 1), AS, FLOAT, FLOAT, f(0.0), f(LEAST_FLOAT));
        dueDone(with(DOUBLE, d(-0x1p-126) - 1, d(0x1p-126) - 1), AS, FLOAT, FLOAT, f(-0x1p-126), f(0x1p-126));
        dueDone(with(DOUBLE, d(-LEAST_DOUBLE), d(LEAST_DOUBLE)), AS, FLOAT, FLOAT, f(-0.0), f(0.0));
    }

    private static void promise14ToEven() {
        of("Promise 14", "to even");
        dueDone(with(INT, (1 << 24) + 1, (1 << 24) + 3), AS, FLOAT, FLOAT, f(0x1p24), f(0x1p24 + 4));
        dueDone(with(INT, -(1 << 24) - 3, -(1 << 24) - 1), AS, FLOAT, FLOAT, f(-0x1p24 - 4), f(-0x1p24));
        dueDone(with(LONG, (1L << 53) + 1, (1L << 53) + 3), AS, DOUBLE, DOUBLE, d(0x1p53), d(0x1p53 + 4));
        dueDone(with(LONG, -(1L << 53) - 3, -(1L << 53) - 1), AS, DOUBLE, DOUBLE, d(-0x1p53 - 4), d(-0x1p53));
        dueDone(with(DOUBLE, d(1 + 0x1p-24), d(1 + 0x3p-24)), AS, FLOAT, FLOAT, f(1), f(1) + 2);
        dueDone(with(DOUBLE, d(-0x3p-150), d(0x1p-150)), AS, FLOAT, FLOAT, f(-0x1p-148), f(0.0));
        dueDone(with(DOUBLE, d(-0x1p-150), d(0x3p-150)), AS, FLOAT, FLOAT, f(-0.0), f(0x1p-148));
    }

    private static void promise14Infinite() {
        of("Promise 14", "perhaps infinite");
        dueDone(with(DOUBLE, d(-GREATEST_DOUBLE), d(GREATEST_DOUBLE)), AS, FLOAT, FLOAT, f(-INFINITE), f(INFINITE));
        dueDone(with(DOUBLE, d(-INFINITE), d(INFINITE)), AS, FLOAT, FLOAT, f(-INFINITE), f(INFINITE));
        long half = d(0x1.ffffffp127);
        dueDone(with(DOUBLE, half - 1, half), AS, FLOAT, FLOAT, f(GREATEST_FLOAT), f(INFINITE));
        // Both ends of one sign, as ORDERED would hide two signs that were exchanged.
        dueDone(with(DOUBLE, d(0x1p128), d(0x1p129)), AS, FLOAT, FLOAT, f(INFINITE), f(INFINITE));
        dueDone(with(DOUBLE, d(-0x1p129), d(-0x1p128)), AS, FLOAT, FLOAT, f(-INFINITE), f(-INFINITE));
        dueDone(with(DOUBLE, d(INFINITE), d(INFINITE)), AS, FLOAT, FLOAT, f(INFINITE), f(INFINITE));
        dueDone(with(DOUBLE, d(-INFINITE), d(-INFINITE)), AS, FLOAT, FLOAT, f(-INFINITE), f(-INFINITE));
    }

    private static void promise14LowestBits() {
        of("Promise 14", "to INT and LONG: of a LONG the lowest 32 bits");
        dueDone(with(LONG, LEAST_INT, GREATEST_INT), AS, INT, INT, LEAST_INT, GREATEST_INT);
        dueDone(with(LONG, GREATEST_INT, GREATEST_INT + 1L), AS, INT, INT, LEAST_INT, GREATEST_INT);
        dueDone(with(LONG, LEAST_INT - 1L, LEAST_INT), AS, INT, INT, LEAST_INT, GREATEST_INT);
        dueDone(with(LONG, LEAST_LONG, GREATEST_LONG), AS, INT, INT, -1, 0);
        dueDone(with(LONG, (1L << 32) + 5, (1L << 40) + 6), AS, INT, INT, 5, 6);
    }

    private static void promise14TowardsZero() {
        of("Promise 14", "of broken ones what is towards 0");
        for (int sort = FLOAT; sort <= DOUBLE; sort++) {
            for (int whole = INT; whole <= LONG; whole++) {
                dueDone(with(sort, b(sort, -1.75), b(sort, 1.75)), AS, whole, whole, -1, 1);
                dueDone(with(sort, b(sort, -0.75), b(sort, 0.75)), AS, whole, whole, 0, 0);
                dueDone(with(sort, b(sort, -0.0), b(sort, 0.0)), AS, whole, whole, 0, 0);
                dueDone(with(sort, b(sort, -1) - 1, b(sort, 1) - 1), AS, whole, whole, 0, 0);
                dueDone(with(sort, b(sort, -0.0) + 1, 1), AS, whole, whole, 0, 0);
                dueDone(with(sort, b(sort, -4194303.5), b(sort, 8388608)), AS, whole, whole, -4194303, 8388608);
            }
        }
        for (int power = -1; power >= -1074; power--) {
            dueDone(with(DOUBLE, d(-Math.scalb(1.0, power)), d(Math.scalb(1.0, power))), AS, LONG, LONG, 0, 0);
            if (power >= -149) {
                dueDone(with(FLOAT, f(-Math.scalb(1.0, power)), f(Math.scalb(1.0, power))), AS, INT, INT, 0, 0);
            }
        }
        for (int power = 0; power < 63; power++) {
            dueDone(with(DOUBLE, d(Math.scalb(1.0, power)), d(Math.scalb(1.0, power))), AS, LONG, LONG,
                    1L << power, 1L << power);
            dueDone(with(FLOAT, f(-Math.scalb(1.0, power)), f(-Math.scalb(1.0, power))), AS, LONG, LONG,
                    -(1L << power), -(1L << power));
        }
        dueDone(with(DOUBLE, d(-2147483647.75), d(2147483646.75)), AS, INT, INT, -2147483647, 2147483646);
        dueDone(with(DOUBLE, d(-0x1p52 + 0.5), d(0x1p52 + 1)), AS, LONG, LONG, -(1L << 52) + 1, (1L << 52) + 1);
        dueDone(with(FLOAT, f(-0x1p40), f(0x1p62)), AS, LONG, LONG, -(1L << 40), 1L << 62);
    }

    private static void promise14Beyond() {
        of("Promise 14", "at most the greatest, at least the least");
        for (int sort = FLOAT; sort <= DOUBLE; sort++) {
            long least = b(sort, -INFINITE);
            long greatest = b(sort, INFINITE);
            dueDone(with(sort, least, greatest), AS, INT, INT, LEAST_INT, GREATEST_INT);
            dueDone(with(sort, least, greatest), AS, LONG, LONG, LEAST_LONG, GREATEST_LONG);
            // Both ends of one sign, as ORDERED would hide two signs that were exchanged.
            dueDone(with(sort, least, least), AS, LONG, LONG, LEAST_LONG, LEAST_LONG);
            dueDone(with(sort, greatest, greatest), AS, LONG, LONG, GREATEST_LONG, GREATEST_LONG);
            dueDone(with(sort, least, least), AS, INT, INT, LEAST_INT, LEAST_INT);
            dueDone(with(sort, greatest, greatest), AS, INT, INT, GREATEST_INT, GREATEST_INT);
            dueDone(with(sort, least - 1, greatest - 1), AS, INT, INT, LEAST_INT, GREATEST_INT);
            dueDone(with(sort, least - 1, greatest - 1), AS, LONG, LONG, LEAST_LONG, GREATEST_LONG);
            dueDone(with(sort, b(sort, -0x1p31), b(sort, 0x1p31)), AS, INT, INT, LEAST_INT, GREATEST_INT);
            dueDone(with(sort, b(sort, -0x1p63), b(sort, 0x1p63)), AS, LONG, LONG, LEAST_LONG, GREATEST_LONG);
            dueDone(with(sort, b(sort, -0x1p63) + 1, b(sort, 0x1p64)), AS, LONG, LONG, LEAST_LONG, GREATEST_LONG);
            dueDone(with(sort, b(sort, -0x1p32), b(sort, 0x1p32)), AS, INT, INT, LEAST_INT, GREATEST_INT);
        }
        dueDone(with(DOUBLE, d(-2147483648.75), d(2147483647.75)), AS, INT, INT, LEAST_INT, GREATEST_INT);
        dueDone(with(FLOAT, f(-0x1p31) - 1, f(0x1p31) - 1), AS, INT, INT, -2147483520, 2147483520);
        dueDone(with(FLOAT, f(-0x1p63) - 1, f(0x1p63) - 1), AS, LONG, LONG,
                -(GREATEST_LONG - (1L << 39) + 1), GREATEST_LONG - (1L << 39) + 1);
        dueDone(with(DOUBLE, d(-0x1p63) - 1, d(0x1p63) - 1), AS, LONG, LONG,
                -(GREATEST_LONG - (1L << 10) + 1), GREATEST_LONG - (1L << 10) + 1);
    }

    private static void promise14NoSuchSort() {
        of("Promise 14", "-4: no such SORT");
        StretchDesk x = with(INT, 1, 2);
        for (int sort : new int[] {-1, 4, LEAST_INT, GREATEST_INT}) {
            due("as " + sort, x.as(0, sort, 0), -4);
            due("as " + sort + ": state", x.state(), -4);
        }
        dueRange("refused", x, 0, INT, 1, 2);
    }

    private static void dueNear(int sort, long low, long high, long v, long want) {
        StretchDesk x = with(sort, low, high);
        String told = "near " + v + " of SORT " + sort + ", " + low + " .. " + high;
        due(told, x.near(0, v), want);
        due(told + ": state", x.state(), 0);
        dueRange(told, x, 0, sort, low, high);
    }

    private static void promise15Itself() {
        of("Promise 15", "The number of the range that is the nearest one to v: v itself");
        dueNear(INT, -5, 5, -5, -5);
        dueNear(INT, -5, 5, 5, 5);
        dueNear(INT, -5, 5, 0x1_0000_0004L, 4);
        dueNear(LONG, LEAST_LONG, GREATEST_LONG, 0x1_0000_0004L, 0x1_0000_0004L);
        dueNear(FLOAT, f(-1), f(1), f(-0.0), f(-0.0));
        dueNear(FLOAT, f(-1), f(1), f(-0.5) & 0xFFFF_FFFFL, f(-0.5));
        dueNear(DOUBLE, d(-INFINITE), d(INFINITE), d(INFINITE), d(INFINITE));
        dueNear(DOUBLE, d(-0.0), d(0.0), d(-0.0), d(-0.0));
    }

    private static void promise15End() {
        of("Promise 15", "or an end");
        dueNear(INT, -5, 5, -6, -5);
        dueNear(INT, -5, 5, 6, 5);
        dueNear(INT, -5, 5, 0x8000_0000L, -5);
        dueNear(LONG, -5, 5, LEAST_LONG, -5);
        dueNear(LONG, -5, 5, GREATEST_LONG, 5);
        dueNear(FLOAT, f(0.0), f(1), f(-0.0), f(0.0));
        dueNear(FLOAT, f(-1), f(-0.0), f(0.0), f(-0.0));
        dueNear(FLOAT, f(-3), f(-2), f(-1), f(-2));
        dueNear(DOUBLE, d(-3), d(-2), d(-4), d(-3));
        dueNear(DOUBLE, d(-3), d(-2), d(-INFINITE), d(-3));
        dueNear(DOUBLE, d(2), d(3), d(INFINITE), d(3));
        dueNear(DOUBLE, d(7), d(7), d(-7), d(7));
    }

    private static void promise15Refused() {
        of("Promise 15", "-4: v is not a number");
        StretchDesk x = withEachSort();
        due("FLOAT", x.near(FLOAT, NO_FLOAT), 0);
        due("FLOAT: state", x.state(), -4);
        due("DOUBLE", x.near(DOUBLE, NO_DOUBLE), 0);
        due("DOUBLE: state", x.state(), -4);
        due("INT by such bits", x.near(INT, NO_FLOAT), 1);
        due("INT by such bits: state", x.state(), 0);
        due("LONG by such bits", x.near(LONG, NO_DOUBLE), 1);
        due("LONG by such bits: state", x.state(), 0);
    }

    private static void dueHas(int sort, long low, long high, long v, int want) {
        StretchDesk x = with(sort, low, high);
        String told = "has " + v + " of SORT " + sort + ", " + low + " .. " + high;
        due(told, x.has(0, v), want);
        due(told + ": state", x.state(), 0);
    }

    private static void promise16In() {
        of("Promise 16", "1 if v is in it, else 0");
        dueHas(INT, -5, 5, -6, 0);
        dueHas(INT, -5, 5, -5, 1);
        dueHas(INT, -5, 5, 5, 1);
        dueHas(INT, -5, 5, 6, 0);
        dueHas(INT, -5, 5, 0x1_0000_0005L, 1);
        dueHas(LONG, -5, 5, 0x1_0000_0005L, 0);
        dueHas(FLOAT, f(0.0), f(1), f(-0.0), 0);
        dueHas(FLOAT, f(-1), f(-0.0), f(0.0), 0);
        dueHas(FLOAT, f(-0.0), f(0.0), f(-0.0), 1);
        dueHas(FLOAT, f(-3), f(-2), f(-2.5) & 0xFFFF_FFFFL, 1);
        dueHas(DOUBLE, d(-3), d(-2), d(-4), 0);
        dueHas(DOUBLE, d(-3), d(-2), d(-1), 0);
        dueHas(DOUBLE, d(0.0), d(INFINITE), d(INFINITE), 1);
        dueHas(DOUBLE, d(0.0), d(GREATEST_DOUBLE), d(INFINITE), 0);
    }

    private static void promise16Refused() {
        of("Promise 16", "-4: v is not a number");
        StretchDesk x = withEachSort();
        due("FLOAT", x.has(FLOAT, NO_FLOAT), -4);
        due("FLOAT: state", x.state(), -4);
        due("DOUBLE", x.has(DOUBLE, NO_DOUBLE), -4);
        due("INT by such bits", x.has(INT, NO_FLOAT), 0);
        due("LONG by such bits", x.has(LONG, NO_DOUBLE), 0);
        due("LONG by such bits: state", x.state(), 0);
    }

    private static void promise17Sort() {
        of("Promise 17", "1 if both are of one SORT");
        for (int a = INT; a <= DOUBLE; a++) {
            for (int b = INT; b <= DOUBLE; b++) {
                StretchDesk x = with(a, 5, 6);
                x.set(15, b, 5, 6);
                due("SORTS " + a + " and " + b, x.alike(0, 15), a == b ? 1 : 0);
                due("SORTS " + a + " and " + b + ": state", x.state(), 0);
            }
        }
        due("one slot", with(INT, 5, 6).alike(0, 0), 1);
    }

    private static void promise17Ends() {
        of("Promise 17", "and have the same ends, bit by bit");
        due("LOW", withTwo(LONG, 1, 3, 2, 3).alike(0, 1), 0);
        due("HIGH", withTwo(LONG, 1, 3, 1, 4).alike(0, 1), 0);
        due("HIGH above 32 bits", withTwo(LONG, 1, 3, 1, 0x1_0000_0003L).alike(0, 1), 0);
        due("FLOAT zeros", withTwo(FLOAT, f(-0.0), f(0.0), f(0.0), f(0.0)).alike(0, 1), 0);
        due("DOUBLE zeros", withTwo(DOUBLE, d(-0.0), d(0.0), d(-0.0), d(-0.0)).alike(0, 1), 0);
        due("INT by its lowest bits", withTwo(INT, -1, 3, 0xFFFF_FFFFL, 0x1_0000_0003L).alike(0, 1), 1);
        due("FLOAT by its lowest bits", withTwo(FLOAT, f(-1), f(1), f(-1) & 0xFFFF_FFFFL, f(1)).alike(0, 1), 1);
    }

    private static void promises2To6NoSlot() {
        StretchDesk x = withEachSort();
        for (int slot : NO_SLOTS) {
            of("Promise 2", NO_SLOT);
            dueRefused("set " + slot, x, x.set(slot, INT, 1, 2), -2, -2);
            of("Promise 3", NO_SLOT);
            dueRefused("clear " + slot, x, x.clear(slot), -2, -2);
            of("Promise 4", NO_SLOT);
            dueRefused("sort " + slot, x, x.sort(slot), -2, -2);
            of("Promise 5", NO_SLOT);
            dueRefused("low " + slot, x, x.low(slot), 0, -2);
            of("Promise 6", NO_SLOT);
            dueRefused("high " + slot, x, x.high(slot), 0, -2);
        }
        due("slots that are not EMPTY", x.about(0), 4);
    }

    private static void promises4To6Empty() {
        StretchDesk x = with(INT, 1, 2);
        x.set(15, INT, 3, 4);
        x.clear(15);
        for (int slot = 1; slot < 16; slot++) {
            of("Promise 4", TAKEN_EMPTY);
            dueRefused("sort " + slot, x, x.sort(slot), -3, -3);
            of("Promise 5", TAKEN_EMPTY);
            dueRefused("low " + slot, x, x.low(slot), 0, -3);
            of("Promise 6", TAKEN_EMPTY);
            dueRefused("high " + slot, x, x.high(slot), 0, -3);
        }
    }

    private static void promises7To14NoSlot() {
        for (int what = HULL; what <= AS; what++) {
            of("Promise " + (7 + what), NO_SLOT);
            for (int slot : NO_SLOTS) {
                StretchDesk x = with(DOUBLE, d(1), d(2));
                dueRefused("a is " + slot, x, did(x, what, slot, 0, 0), -2, -2);
                dueRefused("to is " + slot, x, did(x, what, 0, 0, slot), -2, -2);
                if (takesTwo(what)) {
                    dueRefused("b is " + slot, x, did(x, what, 0, slot, 0), -2, -2);
                }
                dueRange("slot 0", x, 0, DOUBLE, d(1), d(2));
            }
        }
    }

    private static void promises7To14Empty() {
        for (int what = HULL; what <= AS; what++) {
            of("Promise " + (7 + what), TAKEN_EMPTY);
            StretchDesk x = with(DOUBLE, d(1), d(2));
            dueRefused("a is EMPTY", x, did(x, what, 15, 0, 0), -3, -3);
            if (takesTwo(what)) {
                dueRefused("b is EMPTY", x, did(x, what, 0, 15, 0), -3, -3);
                dueRefused("both are EMPTY", x, did(x, what, 15, 15, 0), -3, -3);
            }
            dueRange("slot 0", x, 0, DOUBLE, d(1), d(2));
            due("to is EMPTY, but not taken", did(x, what, 0, 0, 14), 1);
        }
    }

    private static void promises15To17NoSlot() {
        StretchDesk x = with(INT, 1, 2);
        for (int slot : NO_SLOTS) {
            of("Promise 15", NO_SLOT);
            dueRefused("near " + slot, x, x.near(slot, 1), 0, -2);
            of("Promise 16", NO_SLOT);
            dueRefused("has " + slot, x, x.has(slot, 1), -2, -2);
            of("Promise 17", NO_SLOT);
            dueRefused("alike " + slot + ", 0", x, x.alike(slot, 0), -2, -2);
            dueRefused("alike 0, " + slot, x, x.alike(0, slot), -2, -2);
        }
    }

    private static void promises15To17Empty() {
        StretchDesk x = with(INT, 1, 2);
        of("Promise 15", TAKEN_EMPTY);
        dueRefused("near", x, x.near(15, 1), 0, -3);
        of("Promise 16", TAKEN_EMPTY);
        dueRefused("has", x, x.has(15, 1), -3, -3);
        of("Promise 17", TAKEN_EMPTY);
        dueRefused("alike, a is EMPTY", x, x.alike(15, 0), -3, -3);
        dueRefused("alike, b is EMPTY", x, x.alike(0, 15), -3, -3);
        dueRefused("alike, both are EMPTY", x, x.alike(14, 15), -3, -3);
        dueRefused("alike, one EMPTY slot", x, x.alike(15, 15), -3, -3);
    }

    private static void promise18Ks() {
        of("Promise 18", "Step k (0 .. 11) of the chain is");
        StretchDesk x = with(INT, 1, 2);
        for (int k = 0; k < 12; k++) {
            due("step " + k, x.step(k, TURN, 0, 0, 1 + k), 1);
        }
        due("a full chain", x.about(1), 12);
        due("steps alone do nothing", x.about(0), 1);
        due("run", x.run(0, 12), 12);
        for (int k = 0; k < 12; k++) {
            dueRange("step " + k, x, 1 + k, INT, -2, -1);
        }
    }

    private static void promise18Anew() {
        of("Promise 18", "(anew)");
        StretchDesk x = with(INT, -3, 2);
        for (int k = 0; k < 12; k++) {
            x.step(k, TURN, 0, 0, 1);
        }
        due("first anew", x.step(0, SIZE, 0, 0, 2), 1);
        due("last anew", x.step(11, AS, 0, LONG, 3), 1);
        due("steps", x.about(1), 12);
        due("run the first", x.run(0, 1), 1);
        dueRange("run the first", x, 2, INT, 0, 3);
        dueEmpty("run the first", x, 1);
        due("run the last", x.run(11, 1), 1);
        dueRange("run the last", x, 3, LONG, -3, 2);
        dueEmpty("run the last", x, 1);
    }

    private static void promise18Whats() {
        of("Promise 18", "what 0 hull, 1 meet, 2 size, 3 round (b is how), 4 sign, 5 lend, 6 turn, 7 as (b is the "
                + "SORT), of a (and b) to slot to");
        for (int what = HULL; what <= AS; what++) {
            for (int b = 0; b < 4; b++) {
                StretchDesk x = withTwo(DOUBLE, d(-2.5), d(1.25), d(-0.5), d(4.5));
                x.set(2, DOUBLE, d(-7), d(-6));
                x.set(3, DOUBLE, d(0.5), d(1.5));
                int answer = did(x, what, 0, b, 14);
                due("step what " + what + ", b " + b, x.step(0, what, 0, b, 15), 1);
                due("run what " + what + ", b " + b, x.run(0, 1), 1);
                if (answer == 1) {
                    due("what " + what + ", b " + b + ", alike", x.alike(14, 15), 1);
                } else {
                    dueEmpty("what " + what + ", b " + b, x, 15);
                }
            }
        }
    }

    private static void promise18NoSlot() {
        of("Promise 18", "-2: a, to, of 0, 1, 5 also b");
        for (int what = HULL; what <= AS; what++) {
            boolean isTwo = takesTwo(what);
            for (int slot : NO_SLOTS) {
                StretchDesk x = new StretchDesk();
                due("what " + what + ", a " + slot, x.step(0, what, slot, 0, 0), -2);
                due("what " + what + ", a " + slot + ": state", x.state(), -2);
                due("what " + what + ", to " + slot, x.step(0, what, 0, 0, slot), -2);
                due("refused ones are not there", x.about(1), 0);
                due("what " + what + ", b " + slot, x.step(0, what, 0, slot, 0), isTwo ? -2 : 1);
                due("what " + what + ", b " + slot + ", is there", x.about(1), isTwo ? 0 : 1);
            }
            due("last slots of what " + what, new StretchDesk().step(0, what, 15, 15, 15), 1);
        }
    }

    private static void promise18NoSuch() {
        of("Promise 18", "-5: no such k, or what");
        StretchDesk x = with(INT, 1, 2);
        for (int k : new int[] {-1, 12, LEAST_INT, GREATEST_INT}) {
            due("k " + k, x.step(k, TURN, 0, 0, 0), -5);
            due("k " + k + ": state", x.state(), -5);
        }
        for (int what : new int[] {-1, 8, LEAST_INT, GREATEST_INT}) {
            due("what " + what, x.step(0, what, 0, 0, 0), -5);
            due("what " + what + ", b no slot", x.step(0, what, 0, 16, 0), -5);
            due("what " + what + ": state", x.state(), -5);
        }
        due("refused ones are not there", x.about(1), 0);
    }

    private static void promise18LookedAtLater() {
        of("Promise 18", "b of 3 and 7 is looked at as it is done");
        StretchDesk x = with(FLOAT, f(1.5), f(2.5));
        for (int b : new int[] {-1, 5, LEAST_INT, GREATEST_INT}) {
            due("round by " + b, x.step(0, ROUND, 0, b, 1), 1);
            due("as " + b, x.step(1, AS, 0, b, 1), 1);
            due("as " + b + ": state", x.state(), 0);
            due("run round by " + b, x.run(0, 1), 0);
            due("run round by " + b + ": state", x.state(), -5);
            due("run as " + b, x.run(1, 1), 0);
            due("run as " + b + ": state", x.state(), -4);
            dueEmpty("run", x, 1);
        }
        due("as 4", x.step(1, AS, 0, 4, 1), 1);
        due("run as 4", x.run(1, 1), 0);
        due("run as 4: state", x.state(), -4);
    }

    private static void promise18CountsNot() {
        of("Promise 18", "of 2, 4, 6 it counts not");
        for (int what : new int[] {SIZE, SIGN, TURN}) {
            for (int b : new int[] {0, 15, -1, 16, LEAST_INT, GREATEST_INT}) {
                StretchDesk x = with(DOUBLE, d(-1), d(1));
                due("what " + what + ", b " + b, x.step(3, what, 0, b, 1), 1);
                due("run what " + what + ", b " + b, x.run(3, 1), 1);
                dueRange("run what " + what + ", b " + b, x, 1, DOUBLE, what == SIZE ? d(0) : d(-1), d(1));
            }
        }
    }

    /** A desk whose step k turns slot 0 to slot 1 + k. */
    private static StretchDesk withFullChain() {
        StretchDesk x = with(INT, 1, 2);
        for (int k = 0; k < 12; k++) {
            x.step(k, TURN, 0, 0, 1 + k);
        }
        return x;
    }

    /** Just the steps from k to before end are done. */
    private static void dueStepsDone(StretchDesk x, int from, int end) {
        for (int k = 0; k < 12; k++) {
            due("step " + k + " done", x.clear(1 + k), k >= from && k < end ? 1 : 0);
        }
    }

    private static void promise19NAtMost() {
        of("Promise 19", "Steps of the chain from k on are done, n at most");
        for (int k = 0; k < 12; k++) {
            for (int n = 0; n <= 12 - k; n++) {
                StretchDesk x = withFullChain();
                due("run " + k + ", " + n, x.run(k, n), n);
                due("run " + k + ", " + n + ": state", x.state(), 0);
                due("run " + k + ", " + n + ": about 4", x.about(4), n);
                dueStepsDone(x, k, k + n);
            }
        }
        StretchDesk x = with(INT, 1, 2);
        x.step(0, AS, 0, DOUBLE, 0);
        x.step(1, TURN, 0, 0, 0);
        x.step(2, SIGN, 0, 0, 3);
        due("one after another", x.run(0, 12), 3);
        dueRange("one after another", x, 0, DOUBLE, d(-2), d(-1));
        dueRange("one after another", x, 3, DOUBLE, d(-1), d(-1));
    }

    private static void promise19ItsEnd() {
        of("Promise 19", "up to its end (step 11)");
        for (int k = 0; k < 12; k++) {
            StretchDesk x = withFullChain();
            due("run " + k + ", 12", x.run(k, 12), 12 - k);
            due("run " + k + ", 12: state", x.state(), 0);
            dueStepsDone(x, k, 12);
        }
    }

    private static void promise19NotThere() {
        of("Promise 19", "or to the first one that isn't there");
        StretchDesk x = with(INT, 1, 2);
        for (int k = 0; k < 12; k++) {
            if (k != 4 && k != 9) {
                x.step(k, TURN, 0, 0, 1 + k);
            }
        }
        due("run 0, 12", x.run(0, 12), 4);
        due("run 0, 12: state", x.state(), 0);
        dueStepsDone(x, 0, 4);
        due("run 4, 12", x.run(4, 12), 0);
        due("run 4, 12: state", x.state(), 0);
        due("run 5, 12", x.run(5, 12), 4);
        dueStepsDone(x, 5, 9);
        due("run 10, 12", x.run(10, 12), 2);
        due("none is REFUSED", x.about(2), 0);
    }

    private static void promise19Refused() {
        of("Promise 19", "or is REFUSED");
        StretchDesk x = withFullChain();
        x.step(5, TURN, 15, 0, 6);
        due("run 0, 12", x.run(0, 12), 5);
        due("run 0, 12: about 4", x.about(4), 5);
        due("run 0, 12: about 2", x.about(2), 1);
        dueStepsDone(x, 0, 5);
        due("run 5, 12", x.run(5, 12), 0);
        due("run 5, 12: about 2", x.about(2), 2);
        due("run 6, 12", x.run(6, 12), 6);
        dueStepsDone(x, 6, 12);
        due("run 0, 12 of EMPTY", x.clear(0) == 1 ? x.run(0, 12) : -1, 0);
        due("steps that are REFUSED stay", x.about(1), 12);
    }

    private static void promise19ZeroIsDone() {
        of("Promise 19", "how many were done");
        StretchDesk x = withTwo(FLOAT, f(0.25), f(0.75), f(3), f(4));
        x.step(0, MEET, 0, 1, 2);
        x.step(1, ROUND, 0, 4, 3);
        x.step(2, TURN, 1, 0, 4);
        due("run", x.run(0, 12), 3);
        due("run: state", x.state(), 0);
        due("run: about 4", x.about(4), 3);
        dueEmpty("meet", x, 2);
        dueEmpty("round", x, 3);
        dueRange("turn", x, 4, FLOAT, f(-4), f(-3));
    }

    private static void promise19NoSuch() {
        of("Promise 19", "-5: k is not 0 .. 11, or n not 0 .. 12");
        StretchDesk x = withFullChain();
        int[][] none = {{-1, 1}, {12, 1}, {12, 0}, {LEAST_INT, 1}, {GREATEST_INT, 1}, {0, -1}, {0, 13}, {11, 13},
            {0, LEAST_INT}, {0, GREATEST_INT}, {-1, -1}};
        for (int[] c : none) {
            due("run " + c[0] + ", " + c[1], x.run(c[0], c[1]), -5);
            due("run " + c[0] + ", " + c[1] + ": state", x.state(), -5);
        }
        due("none are done", x.about(4), 0);
        dueStepsDone(x, 0, 0);
        due("run 0, 0", x.run(0, 0), 0);
        due("run 0, 0: state", x.state(), 0);
        due("run 11, 12", x.run(11, 12), 1);
    }

    private static void promise19State() {
        of("Promise 19", "(state() tells then by what the one was REFUSED, 0 if none.)");
        StretchDesk x = with(INT, 1, 2);
        x.set(1, DOUBLE, d(1), d(2));
        x.step(0, TURN, 0, 0, 2);
        x.step(1, HULL, 0, 15, 3);
        due("run to EMPTY", x.run(0, 12), 1);
        due("run to EMPTY: state", x.state(), -3);
        due("run before it", x.run(0, 1), 1);
        due("run before it: state", x.state(), 0);
        x.step(1, HULL, 0, 1, 3);
        due("run to two SORTS", x.run(0, 12), 1);
        due("run to two SORTS: state", x.state(), -4);
        due("run none", x.run(0, 0), 0);
        due("run none: state", x.state(), 0);
        x.step(1, ROUND, 1, 5, 3);
        due("run to another how", x.run(0, 12), 1);
        due("run to another how: state", x.state(), -5);
        due("run of what isn't there", x.run(2, 12), 0);
        due("run of what isn't there: state", x.state(), 0);
    }

    private static void promise20Latest() {
        of("Promise 20", "By what the latest call but state(), about() was REFUSED");
        StretchDesk x = with(INT, 1, 2);
        x.low(15);
        due("after -3", x.state(), -3);
        x.set(0, 9, 1, 2);
        due("after -4", x.state(), -4);
        x.step(12, 0, 0, 0, 0);
        due("after -5", x.state(), -5);
        x.near(16, 1);
        due("after -2", x.state(), -2);
    }

    private static void promise20But() {
        of("Promise 20", "but state(), about()");
        StretchDesk x = new StretchDesk();
        x.sort(0);
        due("state", x.state(), -3);
        due("state again", x.state(), -3);
        for (int what = -1; what <= 5; what++) {
            x.about(what);
            due("state after about " + what, x.state(), -3);
        }
    }

    private static void promise20Zero() {
        of("Promise 20", "0 if it wasn't");
        due("new", new StretchDesk().state(), 0);
        StretchDesk x = with(DOUBLE, d(1), d(2));
        for (int call = 0; call < 19; call++) {
            x.sort(-1);
            due("REFUSED", x.state(), -2);
            doneCall(x, call);
            due("state after call " + call, x.state(), 0);
        }
    }

    /** Each call but state() and about(), none of them REFUSED. */
    private static void doneCall(StretchDesk x, int call) {
        switch (call) {
            case 0: x.set(1, INT, 1, 2); return;
            case 1: x.clear(1); return;
            case 2: x.clear(1); return;
            case 3: x.sort(0); return;
            case 4: x.low(0); return;
            case 5: x.high(0); return;
            case 6: x.near(0, d(5)); return;
            case 7: x.has(0, d(5)); return;
            case 8: x.alike(0, 0); return;
            case 9: x.step(0, TURN, 0, 0, 2); return;
            case 10: x.run(0, 12); return;
            default: did(x, call - 11, 0, 0, 2);
        }
    }

    private static void promise21Slots() {
        of("Promise 21", "0 slots that are not EMPTY");
        StretchDesk x = new StretchDesk();
        due("none", x.about(0), 0);
        for (int slot = 0; slot < 16; slot++) {
            x.set(slot, INT, slot, slot);
            due("set " + slot, x.about(0), slot + 1);
        }
        x.set(15, DOUBLE, d(1.25), d(1.5));
        due("full, set anew", x.about(0), 16);
        x.meet(0, 1, 2);
        due("meet in none", x.about(0), 15);
        x.round(15, 4, 15);
        due("round to none", x.about(0), 14);
        x.clear(0);
        x.clear(0);
        due("clear", x.about(0), 13);
        x.turn(1, 0);
        due("turn to EMPTY", x.about(0), 14);
        x.set(2, 4, 0, 0);
        due("REFUSED", x.about(0), 14);
    }

    private static void promise21Steps() {
        of("Promise 21", "1 steps of the chain that are there");
        StretchDesk x = new StretchDesk();
        due("none", x.about(1), 0);
        for (int k = 11; k >= 0; k--) {
            x.step(k, TURN, 0, 0, 0);
            due("step " + k, x.about(1), 12 - k);
        }
        x.step(11, HULL, 0, 0, 0);
        due("full, anew", x.about(1), 12);
        x.step(12, HULL, 0, 0, 0);
        x.run(0, 12);
        due("after REFUSED and run", x.about(1), 12);
    }

    private static void promise21Refused() {
        of("Promise 21", "2 calls and steps that were REFUSED");
        StretchDesk x = new StretchDesk();
        due("none", x.about(2), 0);
        for (int call = 0; call < 19; call++) {
            refusedCall(x, call);
            due("call " + call, x.about(2), call + 1);
        }
        x.step(0, TURN, 5, 0, 5);
        due("a step that is not done yet", x.about(2), 19);
        x.run(0, 12);
        due("a step", x.about(2), 20);
        x.run(0, 0);
        x.clear(5);
        x.state();
        x.about(9);
        due("what is not REFUSED", x.about(2), 20);
    }

    /** Each call but state() and about(), all REFUSED. */
    private static void refusedCall(StretchDesk x, int call) {
        switch (call) {
            case 0: x.set(16, INT, 1, 2); return;
            case 1: x.set(0, 4, 1, 2); return;
            case 2: x.set(0, INT, 2, 1); return;
            case 3: x.clear(16); return;
            case 4: x.sort(0); return;
            case 5: x.low(0); return;
            case 6: x.high(0); return;
            case 7: x.near(0, d(5)); return;
            case 8: x.has(0, d(5)); return;
            case 9: x.alike(0, 0); return;
            case 10: x.run(12, 1); return;
            default: did(x, call - 11, 0, 0, 2);
        }
    }

    private static void promise21Told() {
        of("Promise 21", "3 ends that were told (low(), high())");
        StretchDesk x = with(INT, 1, 2);
        due("none", x.about(3), 0);
        x.low(0);
        due("low", x.about(3), 1);
        x.high(0);
        due("high", x.about(3), 2);
        x.low(15);
        x.low(16);
        x.high(15);
        x.high(-1);
        due("REFUSED", x.about(3), 2);
        x.near(0, 0);
        x.sort(0);
        x.has(0, 1);
        x.alike(0, 0);
        due("other calls", x.about(3), 2);
        x.low(0);
        due("low again", x.about(3), 3);
    }

    private static void promise21Done() {
        of("Promise 21", "4 steps that were done");
        StretchDesk x = withFullChain();
        due("none", x.about(4), 0);
        x.run(0, 0);
        due("run none", x.about(4), 0);
        x.run(0, 12);
        due("run all", x.about(4), 12);
        x.run(11, 12);
        due("run the last", x.about(4), 13);
        x.turn(0, 1);
        due("calls are no steps", x.about(4), 13);
        x.step(1, TURN, 15, 0, 1);
        x.run(0, 12);
        due("run to the REFUSED one", x.about(4), 14);
        x.run(0, 13);
        due("run REFUSED", x.about(4), 14);
    }

    private static void promise21Others() {
        of("Promise 21", "NONE for others");
        StretchDesk x = new StretchDesk();
        for (int what : new int[] {-1, 5, LEAST_INT, GREATEST_INT}) {
            due("about " + what, x.about(what), StretchDesk.NONE);
            due("about " + what + ": state", x.state(), 0);
        }
        due("NONE", StretchDesk.NONE, -1);
        due("it is not REFUSED", x.about(2), 0);
    }

    private static void promises1To6() {
        promise1Slots();
        promise1Chain();
        promise2Comes();
        promise2NoSuchSort();
        promise2NotANumber();
        promise2UpsideDown();
        promise3Empty();
        promise3WasEmpty();
        promise4Sort();
        promise5Low();
        promise6High();
    }

    private static void promises7To10() {
        promise7Least();
        promise7TwoSorts();
        promise8InBoth();
        promise8InNone();
        promise8TwoSorts();
        promise9LowNotBelow();
        promise9HighNotAbove();
        promise9Across();
        promise9Ordered();
        promise9Zeros();
        promise9NoSign();
        promise9Least();
        promise10Down();
        promise10Up();
        promise10Nearest();
        promise10Outward();
        promise10Inward();
        promise10None();
        promise10MinusZero();
        promise10Stays();
        promise10Refused();
    }

    private static void promises11To17() {
        promise11Units();
        promise11Refused();
        promise12Signs();
        promise12Zeros();
        promise12Ordered();
        promise12Refused();
        promise13OtherSign();
        promise13Ordered();
        promise13Stays();
        promise14Ordered();
        promise14Nearest();
        promise14ToEven();
        promise14Infinite();
        promise14LowestBits();
        promise14TowardsZero();
        promise14Beyond();
        promise14NoSuchSort();
        promise15Itself();
        promise15End();
        promise15Refused();
        promise16In();
        promise16Refused();
        promise17Sort();
        promise17Ends();
    }

    private static void promises2To17Slots() {
        promises2To6NoSlot();
        promises4To6Empty();
        promises7To14NoSlot();
        promises7To14Empty();
        promises15To17NoSlot();
        promises15To17Empty();
    }

    private static void promises18To21() {
        promise18Ks();
        promise18Anew();
        promise18Whats();
        promise18NoSlot();
        promise18NoSuch();
        promise18LookedAtLater();
        promise18CountsNot();
        promise19NAtMost();
        promise19ItsEnd();
        promise19NotThere();
        promise19Refused();
        promise19ZeroIsDone();
        promise19NoSuch();
        promise19State();
        promise20Latest();
        promise20But();
        promise20Zero();
        promise21Slots();
        promise21Steps();
        promise21Refused();
        promise21Told();
        promise21Done();
        promise21Others();
    }

    public static void main(String[] args) {
        promises1To6();
        promises7To10();
        promises11To17();
        promises2To17Slots();
        promises18To21();
        System.out.println(wrong == 0 ? "all answers are as due" : wrong + " answers are not as due");
        if (wrong != 0) {
            System.exit(1);
        }
    }
}
