// Each promise of the document in turn: ordinary inputs, the edges that it names, and wrong inputs.
public final class PromisesTest {
    private static final int INT = 0;
    private static final int LONG = 1;
    private static final int FLOAT = 2;
    private static final int DOUBLE = 3;
    private static final int[] NO_SLOTS = {-1, 16, Integer.MIN_VALUE, Integer.MAX_VALUE};

    private static int wrong = 0;

    private static void due(String call, long got, long want) {
        if (got != want) {
            wrong++;
            System.out.println(call + " answered " + got + ", due is " + want);
        }
    }

    private static long d(double v) {
        return Double.doubleToRawLongBits(v);
    }

    private static long f(float v) {
        return Float.floatToRawIntBits(v);
    }

    private static void dueRange(String told, StretchDesk x, int slot, int sort, long low, long high) {
        due(told + ": sort", x.sort(slot), sort);
        due(told + ": low", x.low(slot), low);
        due(told + ": high", x.high(slot), high);
    }

    private static void dueEmpty(String told, StretchDesk x, int slot) {
        due(told + ": EMPTY", x.sort(slot), -3);
    }

    private static StretchDesk with(int sort, long low, long high) {
        StretchDesk x = new StretchDesk();
        due("set", x.set(0, sort, low, high), 1);
        return x;
    }

    private static StretchDesk withTwo(int sort, long low, long high, long low1, long high1) {
        StretchDesk x = with(sort, low, high);
        due("set", x.set(1, sort, low1, high1), 1);
        return x;
    }

    private static void promise1NewObject() {
        StretchDesk x = new StretchDesk();
        due("new: state", x.state(), 0);
        for (int what = 0; what <= 4; what++) {
            due("new: about " + what, x.about(what), 0);
        }
        for (int slot = 0; slot < 16; slot++) {
            dueEmpty("new: slot " + slot, x, slot);
        }
        for (int k = 0; k < 12; k++) {
            due("new: run from " + k, x.run(k, 12), 0);
            due("new: state after run", x.state(), 0);
        }
        with(INT, 1, 2);
        dueEmpty("objects share nothing", x, 0);
    }

    private static void promise2Set() {
        for (int slot = 0; slot < 16; slot++) {
            StretchDesk x = new StretchDesk();
            due("set slot", x.set(slot, LONG, slot, slot + 1), 1);
            dueRange("set slot " + slot, x, slot, LONG, slot, slot + 1);
            due("set fills one slot", x.about(0), 1);
        }
        StretchDesk x = with(INT, 5, 7);
        for (int slot : NO_SLOTS) {
            due("set no slot " + slot, x.set(slot, 9, 2, 1), -2);
            due("set no slot: state", x.state(), -2);
        }
        due("set no sort", x.set(0, -1, 1, 2), -4);
        due("set no sort before -5", x.set(0, 4, 2, 1), -4);
        due("set INT upside down", x.set(0, INT, 1, 0), -5);
        due("set LONG upside down", x.set(0, LONG, 0, Long.MIN_VALUE), -5);
        dueRange("refused sets change nothing", x, 0, INT, 5, 7);
        due("set anew", x.set(0, LONG, Long.MIN_VALUE, Long.MAX_VALUE), 1);
        dueRange("set anew", x, 0, LONG, Long.MIN_VALUE, Long.MAX_VALUE);
        due("set INT by its lowest bits", x.set(0, INT, 0x7_8000_0000L, 0x5_0000_0003L), 1);
        dueRange("set INT by its lowest bits", x, 0, INT, Integer.MIN_VALUE, 3);
        due("set FLOAT by its lowest bits", x.set(0, FLOAT, 0xBF80_0000L, 0x9_3F80_0000L), 1);
        dueRange("set FLOAT by its lowest bits", x, 0, FLOAT, f(-1), f(1));
    }

    private static void promise2SetBroken() {
        StretchDesk x = with(DOUBLE, d(Double.NEGATIVE_INFINITY), d(Double.POSITIVE_INFINITY));
        dueRange("set infinities", x, 0, DOUBLE, d(Double.NEGATIVE_INFINITY), d(Double.POSITIVE_INFINITY));
        long[] noDoubles = {0x7FF0000000000001L, 0x7FF8000000000000L, Long.MAX_VALUE, 0xFFF0000000000001L, -1L};
        for (long v : noDoubles) {
            due("set not a DOUBLE", x.set(0, DOUBLE, v, d(1)), -4);
            due("set not a DOUBLE", x.set(0, DOUBLE, d(1), v), -4);
        }
        long[] noFloats = {0x7F800001L, 0x7FC00000L, Integer.MAX_VALUE, (int) 0xFF800001, 0xFF800001L, -1L};
        for (long v : noFloats) {
            due("set not a FLOAT", x.set(0, FLOAT, v, f(1)), -4);
            due("set not a FLOAT", x.set(0, FLOAT, f(1), v), -4);
        }
        due("set not a number before -5", x.set(0, DOUBLE, -1L, d(-9)), -4);
        due("set 0 to -0", x.set(0, DOUBLE, d(0.0), d(-0.0)), -5);
        due("set -1 to -2", x.set(0, DOUBLE, d(-1), d(-2)), -5);
        due("set FLOAT 2 to 1", x.set(0, FLOAT, f(2), f(1)), -5);
        due("set FLOAT -1 to -2", x.set(0, FLOAT, f(-1), f(-2)), -5);
        due("set FLOAT -0 to 0", x.set(0, FLOAT, f(-0f), f(0f)), 1);
        dueRange("set FLOAT -0 to 0", x, 0, FLOAT, Integer.MIN_VALUE, 0);
        due("set the least ones", x.set(0, FLOAT, f(-Float.MIN_VALUE), f(Float.MIN_VALUE)), 1);
        dueRange("set the least ones", x, 0, FLOAT, f(-Float.MIN_VALUE), 1);
    }

    private static void promise3Clear() {
        StretchDesk x = with(INT, 1, 2);
        due("clear", x.clear(0), 1);
        dueEmpty("clear", x, 0);
        due("clear EMPTY", x.clear(0), 0);
        due("clear EMPTY is not refused", x.state(), 0);
        due("clear last", x.clear(15), 0);
        for (int slot : NO_SLOTS) {
            due("clear no slot", x.clear(slot), -2);
            due("clear no slot: state", x.state(), -2);
        }
    }

    private static void promise4To6Ends() {
        StretchDesk x = new StretchDesk();
        for (int sort = INT; sort <= DOUBLE; sort++) {
            due("set", x.set(sort, sort, 1, 2), 1);
            dueRange("ends", x, sort, sort, 1, 2);
        }
        for (int slot : NO_SLOTS) {
            due("sort no slot", x.sort(slot), -2);
            due("low no slot", x.low(slot), 0);
            due("low no slot: state", x.state(), -2);
            due("high no slot", x.high(slot), 0);
            due("high no slot: state", x.state(), -2);
        }
        due("sort EMPTY", x.sort(15), -3);
        due("low EMPTY", x.low(15), 0);
        due("low EMPTY: state", x.state(), -3);
        due("sort", x.sort(0), 0);
        due("state is 0 again", x.state(), 0);
        due("high EMPTY", x.high(15), 0);
        due("high EMPTY: state", x.state(), -3);
        due("low", x.low(0), 1);
        due("low: state", x.state(), 0);
        x.high(15);
        due("high", x.high(0), 2);
        due("high: state", x.state(), 0);
    }

    private static void promise7Hull() {
        StretchDesk x = withTwo(INT, -5, 3, 10, 12);
        due("hull with a gap", x.hull(0, 1, 2), 1);
        dueRange("hull with a gap", x, 2, INT, -5, 12);
        due("hull onto itself", x.hull(1, 0, 1), 1);
        dueRange("hull onto itself", x, 1, INT, -5, 12);
        x = withTwo(LONG, Long.MIN_VALUE, 3, 1, 2);
        due("hull of one in the other", x.hull(1, 0, 0), 1);
        dueRange("hull of one in the other", x, 0, LONG, Long.MIN_VALUE, 3);
        x = withTwo(DOUBLE, d(-2), d(-1), d(-4), d(-3));
        due("hull DOUBLE", x.hull(0, 1, 2), 1);
        dueRange("hull DOUBLE", x, 2, DOUBLE, d(-4), d(-1));
        x = withTwo(FLOAT, f(-0f), f(-0f), f(0f), f(Float.POSITIVE_INFINITY));
        due("hull FLOAT", x.hull(0, 1, 2), 1);
        dueRange("hull FLOAT", x, 2, FLOAT, f(-0f), f(Float.POSITIVE_INFINITY));
    }

    private static void promise8Meet() {
        StretchDesk x = withTwo(INT, -5, 3, 3, 12);
        due("meet in one", x.meet(0, 1, 2), 1);
        dueRange("meet in one", x, 2, INT, 3, 3);
        due("set", x.set(1, INT, 4, 12), 1);
        due("meet in none", x.meet(0, 1, 2), 0);
        due("meet in none is not refused", x.state(), 0);
        dueEmpty("meet in none", x, 2);
        due("meet in none onto itself", x.meet(0, 1, 0), 0);
        dueEmpty("meet in none onto itself", x, 0);
        x = withTwo(DOUBLE, d(-5), d(-2), d(-3), d(-1));
        due("meet DOUBLE", x.meet(1, 0, 0), 1);
        dueRange("meet DOUBLE", x, 0, DOUBLE, d(-3), d(-2));
        x = withTwo(FLOAT, f(-1), f(-0f), f(0f), f(1));
        due("meet at both zeros", x.meet(0, 1, 2), 0);
    }

    private static void dueSize(int sort, long low, long high, long wantLow, long wantHigh) {
        StretchDesk x = with(sort, low, high);
        due("size", x.size(0, 1), 1);
        dueRange("size " + sort + " " + low + " " + high, x, 1, sort, wantLow, wantHigh);
        due("size onto itself", x.size(0, 0), 1);
        dueRange("size onto itself", x, 0, sort, wantLow, wantHigh);
    }

    private static void promise9Size() {
        dueSize(INT, 3, 5, 3, 5);
        dueSize(INT, -5, -3, 3, 5);
        dueSize(INT, -5, 0, 0, 5);
        dueSize(INT, 0, 5, 0, 5);
        dueSize(INT, -5, 3, 0, 5);
        dueSize(LONG, -3, 5, 0, 5);
        dueSize(INT, Integer.MIN_VALUE, -3, Integer.MIN_VALUE, 3);
        dueSize(INT, Integer.MIN_VALUE, 3, 0, 3);
        dueSize(LONG, Integer.MIN_VALUE, 3, 0, 1L << 31);
        dueSize(LONG, Long.MIN_VALUE, Long.MIN_VALUE, Long.MIN_VALUE, Long.MIN_VALUE);
        dueSize(LONG, Long.MIN_VALUE, 0, Long.MIN_VALUE, 0);
        dueSize(LONG, Long.MIN_VALUE, Long.MAX_VALUE, 0, Long.MAX_VALUE);
        dueSize(DOUBLE, d(-0.0), d(2), d(0), d(2));
        dueSize(DOUBLE, d(-2), d(-0.0), d(0), d(2));
        dueSize(DOUBLE, d(-2), d(Double.MIN_VALUE), d(0), d(2));
        dueSize(FLOAT, f(-3), f(2), f(0), f(3));
        dueSize(FLOAT, f(Float.NEGATIVE_INFINITY), f(-3), f(3), f(Float.POSITIVE_INFINITY));
        dueSize(FLOAT, f(-0f), f(0f), f(0), f(0));
    }

    private static void dueRound(double low, double high, int how, double wantLow, double wantHigh) {
        StretchDesk x = with(DOUBLE, d(low), d(high));
        due("round", x.round(0, how, 1), 1);
        dueRange("round DOUBLE " + low + " " + high + " by " + how, x, 1, DOUBLE, d(wantLow), d(wantHigh));
        x = with(FLOAT, f((float) low), f((float) high));
        due("round", x.round(0, how, 0), 1);
        dueRange("round FLOAT " + low + " " + high + " by " + how, x, 0, FLOAT,
                f((float) wantLow), f((float) wantHigh));
    }

    private static void promise10Round() {
        dueRound(-1.25, 1.25, 0, -2, 1);
        dueRound(-1.25, 1.25, 1, -1, 2);
        dueRound(-1.25, 1.25, 2, -1, 1);
        dueRound(-1.25, 1.25, 3, -2, 2);
        dueRound(-1.25, 1.25, 4, -1, 1);
        dueRound(0.5, 1.5, 2, 0, 2);
        dueRound(2.5, 3.5, 2, 2, 4);
        dueRound(-1.5, -0.5, 2, -2, -0.0);
        dueRound(-0.75, 0.75, 2, -1, 1);
        dueRound(-0.25, -0.0, 1, -0.0, -0.0);
        dueRound(-0.25, 0.25, 2, -0.0, 0);
        dueRound(-0.0, 0.0, 0, -0.0, 0);
        dueRound(-0.0, 0.25, 4, -0.0, 0);
        dueRound(-4, 7, 1, -4, 7);
        dueRound(Double.NEGATIVE_INFINITY, Double.POSITIVE_INFINITY, 1,
                Double.NEGATIVE_INFINITY, Double.POSITIVE_INFINITY);
        dueRound(8388607.5, 8388609, 2, 8388608, 8388609);
        StretchDesk x = with(DOUBLE, d(4503599627370495.5), d(9007199254740993.0));
        due("round", x.round(0, 1, 0), 1);
        dueRange("round great ones", x, 0, DOUBLE, d(4503599627370496.0), d(9007199254740992.0));
        x = withTwo(FLOAT, f(1.25f), f(1.75f), 0, 0);
        due("round to none", x.round(0, 4, 1), 0);
        due("round to none is not refused", x.state(), 0);
        dueEmpty("round to none", x, 1);
        x = with(INT, 1, 2);
        due("round INT before how", x.round(0, 9, 1), -4);
        x = with(LONG, 1, 2);
        due("round LONG", x.round(0, 0, 1), -4);
        x = with(DOUBLE, d(1), d(2));
        due("round how -1", x.round(0, -1, 0), -5);
        due("round how 5", x.round(0, 5, 0), -5);
        due("round: no slot to before how", x.round(0, 5, 16), -2);
        due("round: EMPTY before how", x.round(3, 5, 0), -3);
        dueRange("refused rounds change nothing", x, 0, DOUBLE, d(1), d(2));
    }

    private static void promise11Sign() {
        StretchDesk x = withTwo(DOUBLE, d(-7.5), d(Double.MIN_VALUE), d(-0.0), d(0.0));
        due("sign", x.sign(0, 0), 1);
        dueRange("sign", x, 0, DOUBLE, d(-1), d(1));
        due("sign of zeros", x.sign(1, 2), 1);
        dueRange("sign of zeros", x, 2, DOUBLE, d(-0.0), d(0.0));
        x = withTwo(FLOAT, f(Float.NEGATIVE_INFINITY), f(-Float.MIN_VALUE), f(0), f(Float.POSITIVE_INFINITY));
        due("sign", x.sign(0, 2), 1);
        dueRange("sign", x, 2, FLOAT, f(-1), f(-1));
        due("sign", x.sign(1, 2), 1);
        dueRange("sign", x, 2, FLOAT, f(0), f(1));
        due("sign INT", with(INT, 1, 2).sign(0, 1), -4);
        due("sign LONG", with(LONG, 1, 2).sign(0, 1), -4);
    }

    private static void promise12Lend() {
        StretchDesk x = withTwo(DOUBLE, d(2), d(3), d(-0.0), d(0.0));
        due("lend", x.lend(0, 1, 2), 1);
        dueRange("lend", x, 2, DOUBLE, d(-2), d(3));
        x = withTwo(DOUBLE, d(2), d(3), d(-9), d(-8));
        due("lend ORDERED", x.lend(0, 1, 0), 1);
        dueRange("lend ORDERED", x, 0, DOUBLE, d(-3), d(-2));
        x = withTwo(FLOAT, f(-7), f(-0f), f(1), f(Float.POSITIVE_INFINITY));
        due("lend FLOAT", x.lend(0, 1, 1), 1);
        dueRange("lend FLOAT", x, 1, FLOAT, f(0), f(7));
        due("lend LONG", withTwo(LONG, 1, 2, 3, 4).lend(0, 1, 2), -4);
        due("lend INT", withTwo(INT, 1, 2, 3, 4).lend(0, 1, 2), -4);
    }

    private static void dueTurn(int sort, long low, long high, long wantLow, long wantHigh) {
        StretchDesk x = with(sort, low, high);
        due("turn", x.turn(0, 0), 1);
        dueRange("turn " + sort + " " + low + " " + high, x, 0, sort, wantLow, wantHigh);
    }

    private static void promise13Turn() {
        dueTurn(INT, -3, 5, -5, 3);
        dueTurn(INT, 0, 0, 0, 0);
        dueTurn(INT, Integer.MIN_VALUE, 5, Integer.MIN_VALUE, -5);
        dueTurn(INT, Integer.MIN_VALUE, -5, Integer.MIN_VALUE, 5);
        dueTurn(LONG, Integer.MIN_VALUE, 5, -5, 1L << 31);
        dueTurn(LONG, Long.MIN_VALUE, Long.MAX_VALUE, Long.MIN_VALUE, -Long.MAX_VALUE);
        dueTurn(DOUBLE, d(-0.0), d(0.0), d(-0.0), d(0.0));
        dueTurn(DOUBLE, d(1), d(2), d(-2), d(-1));
        dueTurn(FLOAT, f(0), f(Float.POSITIVE_INFINITY), f(Float.NEGATIVE_INFINITY), f(-0f));
    }

    private static void dueAs(int sort, long low, long high, int to, long wantLow, long wantHigh) {
        StretchDesk x = with(sort, low, high);
        due("as", x.as(0, to, 1), 1);
        dueRange("as " + to + " of " + sort + " " + low + " " + high, x, 1, to, wantLow, wantHigh);
        due("as onto itself", x.as(0, to, 0), 1);
        due("as onto itself", x.alike(0, 1), 1);
    }

    private static void promise14As() {
        dueAs(LONG, 1, 1L << 31, INT, Integer.MIN_VALUE, 1);
        dueAs(LONG, Long.MIN_VALUE, Long.MAX_VALUE, INT, -1, 0);
        dueAs(INT, -1, 2, LONG, -1, 2);
        dueAs(INT, -16777217, 16777219, FLOAT, f(-16777216f), f(16777220f));
        dueAs(INT, 0, Integer.MAX_VALUE, DOUBLE, d(0), d(2147483647.0));
        dueAs(LONG, Long.MIN_VALUE, Long.MAX_VALUE, DOUBLE, d(-0x1p63), d(0x1p63));
        dueAs(LONG, Long.MIN_VALUE, Long.MAX_VALUE, FLOAT, f(-0x1p63f), f(0x1p63f));
        dueAs(LONG, (1L << 53) + 1, (1L << 53) + 3, DOUBLE, d(0x1p53), d(0x1p53 + 4));
        dueAs(DOUBLE, d(-2.9), d(2.9), INT, -2, 2);
        dueAs(DOUBLE, d(-1e300), d(1e300), INT, Integer.MIN_VALUE, Integer.MAX_VALUE);
        dueAs(DOUBLE, d(-2147483647.5), d(2147483647.5), INT, -2147483647, Integer.MAX_VALUE);
        dueAs(DOUBLE, d(Double.NEGATIVE_INFINITY), d(Double.POSITIVE_INFINITY), LONG, Long.MIN_VALUE, Long.MAX_VALUE);
        dueAs(DOUBLE, d(-0x1p63), d(0x1.fffffffffffffp62), LONG, Long.MIN_VALUE, Long.MAX_VALUE - 1023);
        dueAs(DOUBLE, d(-0.0), d(0.9), LONG, 0, 0);
        dueAs(FLOAT, f(-1.5f), f(3e9f), INT, -1, Integer.MAX_VALUE);
        dueAs(FLOAT, f(-3e9f), f(Float.POSITIVE_INFINITY), LONG, -3000000000L, Long.MAX_VALUE);
        dueAs(FLOAT, f(-0f), f(Float.MIN_VALUE), DOUBLE, d(-0.0), d(Float.MIN_VALUE));
        dueAs(FLOAT, f(-0.1f), f(Float.POSITIVE_INFINITY), DOUBLE, d(-0.1f), d(Double.POSITIVE_INFINITY));
        dueAs(DOUBLE, d(-1e39), d(0.1), FLOAT, f(Float.NEGATIVE_INFINITY), f(0.1f));
        dueAs(DOUBLE, d(-0x1p-150), d(0x1.8p-149), FLOAT, f(-0f), f(0x1p-148f));
        dueAs(DOUBLE, d(0x1.fffffefffffffp127), d(0x1.ffffffp127), FLOAT, f(Float.MAX_VALUE), 0x7F800000L);
        for (int sort = INT; sort <= DOUBLE; sort++) {
            dueAs(sort, 1, 77, sort, 1, 77);
        }
        StretchDesk x = with(INT, 1, 2);
        due("as no sort", x.as(0, 4, 0), -4);
        due("as no sort", x.as(0, -1, 0), -4);
        due("as of EMPTY before no sort", x.as(1, 4, 0), -3);
        due("as to no slot first", x.as(1, 4, -1), -2);
        dueRange("refused as changes nothing", x, 0, INT, 1, 2);
    }

    private static void dueRefusalsOfTwo(String name, StretchDesk x, int which) {
        int[][] calls = {{16, 0, 0, -2}, {0, -1, 0, -2}, {0, 0, 16, -2}, {5, 0, -1, -2}, {5, 0, 0, -3}, {0, 5, 0, -3},
            {0, 1, 0, -4}, {1, 0, 0, -4}};
        for (int[] c : calls) {
            int got = which == 0 ? x.hull(c[0], c[1], c[2])
                    : which == 1 ? x.meet(c[0], c[1], c[2]) : x.lend(c[0], c[1], c[2]);
            due(name + " refused", got, c[3]);
            due(name + " refused: state", x.state(), c[3]);
        }
        dueRange(name + " refused changes nothing", x, 0, FLOAT, 1, 2);
    }

    private static void promises7To14Refused() {
        for (int which = 0; which < 3; which++) {
            StretchDesk x = with(FLOAT, 1, 2);
            due("set", x.set(1, DOUBLE, 1, 2), 1);
            dueRefusalsOfTwo("two slots, " + which, x, which);
        }
        StretchDesk x = with(FLOAT, 1, 2);
        for (int slot : NO_SLOTS) {
            due("size no slot", x.size(slot, 0), -2);
            due("size to no slot", x.size(9, slot), -2);
            due("round no slot", x.round(slot, 0, 0), -2);
            due("sign no slot", x.sign(slot, 0), -2);
            due("sign to no slot", x.sign(9, slot), -2);
            due("turn no slot", x.turn(slot, 0), -2);
            due("turn to no slot", x.turn(9, slot), -2);
            due("as no slot", x.as(slot, 0, 0), -2);
        }
        due("size EMPTY", x.size(9, 0), -3);
        due("round EMPTY", x.round(9, 0, 0), -3);
        due("sign EMPTY", x.sign(9, 0), -3);
        due("turn EMPTY", x.turn(9, 0), -3);
        due("turn EMPTY: state", x.state(), -3);
        dueRange("refused changes nothing", x, 0, FLOAT, 1, 2);
    }

    private static void promise15And16NearAndHas() {
        StretchDesk x = withTwo(INT, -5, 5, 0, 0);
        long[][] ofInt = {{-6, -5, 0}, {-5, -5, 1}, {0, 0, 1}, {5, 5, 1}, {6, 5, 0}, {0x1_0000_0003L, 3, 1},
            {0x1_8000_0000L, -5, 0}};
        for (long[] c : ofInt) {
            due("near INT " + c[0], x.near(0, c[0]), c[1]);
            due("has INT " + c[0], x.has(0, c[0]), c[2]);
        }
        x = with(LONG, -5, 5);
        due("near LONG", x.near(0, 0x1_0000_0003L), 5);
        due("has LONG", x.has(0, 0x1_0000_0003L), 0);
        x = with(DOUBLE, d(0.0), d(2));
        due("near -0", x.near(0, d(-0.0)), d(0.0));
        due("has -0", x.has(0, d(-0.0)), 0);
        due("near -inf", x.near(0, d(Double.NEGATIVE_INFINITY)), d(0.0));
        due("near inf", x.near(0, d(Double.POSITIVE_INFINITY)), d(2));
        due("near 1", x.near(0, d(1)), d(1));
        due("has 1", x.has(0, d(1)), 1);
        due("has the end", x.has(0, d(2)), 1);
        due("has beyond", x.has(0, d(2.5)), 0);
        due("near not a number", x.near(0, d(Double.NaN)), 0);
        due("near not a number: state", x.state(), -4);
        due("near", x.near(0, d(1)), d(1));
        due("near: state is 0 again", x.state(), 0);
        due("has not a number", x.has(0, d(Double.NaN)), -4);
        x = with(FLOAT, f(-3), f(-2));
        due("near FLOAT", x.near(0, f(-1)), f(-2));
        due("near FLOAT by its lowest bits", x.near(0, f(-2.5f) & 0xFFFFFFFFL), f(-2.5f));
        due("has FLOAT by its lowest bits", x.has(0, f(-2.5f) & 0xFFFFFFFFL), 1);
        due("has FLOAT", x.has(0, f(-4)), 0);
        due("has not a FLOAT", x.has(0, 0x7F800001L), -4);
        for (int slot : NO_SLOTS) {
            due("has no slot", x.has(slot, -1), -2);
            due("near no slot", x.near(slot, -1), 0);
            due("near no slot: state", x.state(), -2);
        }
        due("has EMPTY", x.has(3, -1), -3);
        due("near EMPTY", x.near(3, 7), 0);
        due("near EMPTY: state", x.state(), -3);
        due("near tells no end", x.about(3), 0);
    }

    private static void promise17Alike() {
        StretchDesk x = withTwo(INT, 1, 2, 1, 2);
        due("alike", x.alike(0, 1), 1);
        due("alike itself", x.alike(0, 0), 1);
        due("set", x.set(1, LONG, 1, 2), 1);
        due("alike of two SORTS", x.alike(0, 1), 0);
        due("alike of two SORTS is not refused", x.state(), 0);
        due("set", x.set(1, INT, 0, 2), 1);
        due("alike, other LOW", x.alike(0, 1), 0);
        due("set", x.set(1, INT, 1, 3), 1);
        due("alike, other HIGH", x.alike(0, 1), 0);
        due("alike of zeros", withTwo(DOUBLE, d(-0.0), d(0.0), d(0.0), d(0.0)).alike(0, 1), 0);
        due("alike no slot", x.alike(16, 5), -2);
        due("alike no slot", x.alike(5, -1), -2);
        due("alike EMPTY", x.alike(0, 5), -3);
        due("alike EMPTY", x.alike(5, 0), -3);
        due("alike EMPTY both", x.alike(5, 6), -3);
    }

    private static void promise18Step() {
        StretchDesk x = new StretchDesk();
        for (int what = 0; what < 8; what++) {
            boolean two = what == 0 || what == 1 || what == 5;
            due("step " + what, x.step(what, what, 15, 0, 15), 1);
            due("step a", x.step(0, what, 16, 0, 0), -2);
            due("step to", x.step(0, what, 0, 0, -1), -2);
            due("step b of " + what, x.step(0, what, 0, 99, 0), two ? -2 : 1);
            due("step a before k", x.step(12, what, -1, 0, 0), -2);
            due("step b before k", x.step(12, what, 0, 16, 0), two ? -2 : -5);
        }
        due("steps", x.about(1), 8);
        due("step k -1", x.step(-1, 0, 0, 0, 0), -5);
        due("step k 12", x.step(12, 0, 0, 0, 0), -5);
        due("step what -1", x.step(9, -1, 0, 99, 0), -5);
        due("step what 8", x.step(9, 8, 0, 99, 0), -5);
        due("step what 8: state", x.state(), -5);
        due("step a before what", x.step(9, 8, 16, 0, 0), -2);
        due("steps", x.about(1), 8);
        due("step 11", x.step(11, 7, 0, -1, 0), 1);
        due("steps", x.about(1), 9);
        due("step anew", x.step(11, 6, 0, -1, 0), 1);
        due("steps", x.about(1), 9);
        StretchDesk y = with(INT, 1, 2);
        due("step", y.step(0, 7, 0, 1, 0), 1);
        due("step anew", y.step(0, 6, 0, 1, 3), 1);
        due("run anew", y.run(0, 12), 1);
        dueRange("step anew", y, 3, INT, -2, -1);
        dueRange("step anew, old one is gone", y, 0, INT, 1, 2);
        due("refused step", y.step(0, 0, 0, 0, 16), -2);
        due("run the old one", y.run(0, 12), 1);
    }

    private static void promise19RunAll() {
        StretchDesk x = withTwo(DOUBLE, d(-1.5), d(2.5), d(2), d(4));
        int[][] steps = {{0, 0, 1, 2}, {1, 0, 1, 3}, {2, 0, -9, 4}, {3, 0, 3, 5}, {4, 0, 99, 6}, {5, 1, 0, 7},
            {6, 1, 44, 8}, {7, 0, 1, 9}};
        for (int k = 0; k < steps.length; k++) {
            due("step", x.step(k, steps[k][0], steps[k][1], steps[k][2], steps[k][3]), 1);
        }
        due("steps change no slot", x.about(0), 2);
        due("run", x.run(0, 12), 8);
        due("run: state", x.state(), 0);
        due("run: done", x.about(4), 8);
        dueRange("run hull", x, 2, DOUBLE, d(-1.5), d(4));
        dueRange("run meet", x, 3, DOUBLE, d(2), d(2.5));
        dueRange("run size", x, 4, DOUBLE, d(0), d(2.5));
        dueRange("run round", x, 5, DOUBLE, d(-2), d(3));
        dueRange("run sign", x, 6, DOUBLE, d(-1), d(1));
        dueRange("run lend", x, 7, DOUBLE, d(-2), d(4));
        dueRange("run turn", x, 8, DOUBLE, d(-4), d(-2));
        dueRange("run as", x, 9, LONG, -1, 2);
        due("run from 3, two", x.run(3, 2), 2);
        due("run none", x.run(0, 0), 0);
        due("run from the last", x.run(7, 1), 1);
        due("run from none", x.run(8, 12), 0);
        due("run: done", x.about(4), 11);
        due("steps stay", x.about(1), 8);
    }

    private static void promise19RunEnds() {
        StretchDesk x = with(INT, 1, 2);
        for (int k = 8; k < 12; k++) {
            due("step", x.step(k, 6, 0, 0, 0), 1);
        }
        due("run to the end", x.run(9, 12), 3);
        dueRange("run to the end", x, 0, INT, -2, -1);
        int[][] refused = {{-1, 1}, {12, 1}, {0, -1}, {0, 13}, {Integer.MAX_VALUE, Integer.MAX_VALUE},
            {Integer.MIN_VALUE, Integer.MIN_VALUE}};
        for (int[] c : refused) {
            due("run refused", x.run(c[0], c[1]), -5);
            due("run refused: state", x.state(), -5);
        }
        due("run refused counts", x.about(2), refused.length);
        due("step of EMPTY", x.step(9, 6, 5, 0, 0), 1);
        due("run to the refused one", x.run(8, 12), 1);
        due("run to the refused one: state", x.state(), -3);
        due("run to the refused one counts once", x.about(2), refused.length + 1);
        dueRange("run to the refused one", x, 0, INT, 1, 2);
        due("run before the refused one", x.run(8, 1), 1);
        due("run before the refused one: state", x.state(), 0);
        due("step of another how", x.step(9, 3, 0, 7, 0), 1);
        due("run round of INT", x.run(9, 1), 0);
        due("run round of INT: state", x.state(), -4);
        due("set", x.set(0, FLOAT, 1, 2), 1);
        due("run round by 7", x.run(9, 1), 0);
        due("run round by 7: state", x.state(), -5);
        due("step as no sort", x.step(9, 7, 0, 4, 0), 1);
        due("run as no sort", x.run(9, 1), 0);
        due("run as no sort: state", x.state(), -4);
        x = withTwo(INT, 1, 2, 3, 4);
        due("step", x.step(0, 1, 0, 1, 2), 1);
        due("step", x.step(1, 6, 0, 1, 3), 1);
        due("run over a meet in none", x.run(0, 12), 2);
        due("run over a meet in none: done", x.about(4), 2);
        dueEmpty("run over a meet in none", x, 2);
    }

    private static void promise20State() {
        StretchDesk x = with(INT, 1, 2);
        due("state", x.state(), 0);
        due("refused", x.clear(-1), -2);
        due("state stays", x.state(), -2);
        due("about", x.about(0), 1);
        due("about others", x.about(77), -1);
        due("state over about", x.state(), -2);
        due("state over state", x.state(), -2);
        due("done", x.has(0, 1), 1);
        due("state", x.state(), 0);
        x.low(9);
        due("state", x.state(), -3);
        due("done", x.alike(0, 0), 1);
        due("state", x.state(), 0);
        x.run(0, 99);
        due("state", x.state(), -5);
        x.run(0, 12);
        due("state", x.state(), 0);
    }

    private static void promise21About() {
        StretchDesk x = new StretchDesk();
        for (int slot = 0; slot < 16; slot++) {
            due("set", x.set(slot, INT, 1, 2), 1);
            due("about 0", x.about(0), slot + 1);
        }
        due("set anew", x.set(3, INT, 4, 5), 1);
        due("about 0", x.about(0), 16);
        due("meet in none", x.meet(3, 4, 5), 0);
        due("about 0", x.about(0), 15);
        for (int k = 0; k < 12; k++) {
            due("step", x.step(k, 6, 0, 0, 0), 1);
            due("about 1", x.about(1), k + 1);
        }
        due("about 2", x.about(2), 0);
        x.low(5);
        x.high(16);
        x.near(5, 1);
        x.has(5, 1);
        x.set(0, 9, 0, 0);
        due("about 2", x.about(2), 5);
        due("about 3, refused ones not", x.about(3), 0);
        x.low(0);
        x.high(0);
        x.high(1);
        x.near(0, 1);
        due("about 3", x.about(3), 3);
        x.turn(0, 0);
        due("about 4, calls not", x.about(4), 0);
        due("run", x.run(0, 12), 12);
        due("run", x.run(10, 1), 1);
        due("about 4", x.about(4), 13);
        int[] others = {-1, 5, Integer.MIN_VALUE, Integer.MAX_VALUE};
        for (int what : others) {
            due("about others", x.about(what), StretchDesk.NONE);
        }
        due("about others is not refused", x.about(2), 5);
        due("NONE", StretchDesk.NONE, -1);
    }

    public static void main(String[] args) {
        promise1NewObject();
        promise2Set();
        promise2SetBroken();
        promise3Clear();
        promise4To6Ends();
        promise7Hull();
        promise8Meet();
        promise9Size();
        promise10Round();
        promise11Sign();
        promise12Lend();
        promise13Turn();
        promise14As();
        promises7To14Refused();
        promise15And16NearAndHas();
        promise17Alike();
        promise18Step();
        promise19RunAll();
        promise19RunEnds();
        promise20State();
        promise21About();
        System.out.println(wrong == 0 ? "all answers are as due" : wrong + " answers are not as due");
        if (wrong != 0) {
            System.exit(1);
        }
    }
}
