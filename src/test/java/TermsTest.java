import java.util.ArrayList;
import java.util.List;

// Each sentence of 'What it is' and 'Terms' that names a boundary case, with a test of its own. What does not hold is
// printed with the sentence.
public final class TermsTest {
    private static final int INT = 0;
    private static final int LONG = 1;
    private static final int FLOAT = 2;
    private static final int DOUBLE = 3;

    private static final int LEAST_INT = Integer.MIN_VALUE;
    private static final int GREATEST_INT = Integer.MAX_VALUE;
    private static final long LEAST_LONG = Long.MIN_VALUE;
    private static final long GREATEST_LONG = Long.MAX_VALUE;
    private static final double INFINITE = Double.POSITIVE_INFINITY;
    private static final long NO_DOUBLE = 0x7FF0000000000001L;
    private static final long NO_FLOAT = 0x7F800001L;

    private static String sentence = "";
    private static int wrong = 0;

    private interface Call {
        long on(StretchDesk x);
    }

    // A call that is to be REFUSED, by code; a wide one answers 64 bits, and so 0.
    private static final class Refused {
        final String name;
        final int code;
        final boolean isWide;
        final Call call;

        Refused(String name, int code, boolean isWide, Call call) {
            this.name = name;
            this.code = code;
            this.isWide = isWide;
            this.call = call;
        }
    }

    private static void of(String words) {
        sentence = "Terms, '" + words + "'";
    }

    private static void due(String call, long got, long want) {
        if (got != want) {
            wrong++;
            System.out.println(sentence + ": " + call + " answered " + got + ", due is " + want);
        }
    }

    private static void dueText(String call, String got, String want) {
        if (!got.equals(want)) {
            wrong++;
            System.out.println(sentence + ": " + call + " left " + got + ", due is " + want);
        }
    }

    private static void dueRange(String told, StretchDesk x, int slot, int sort, long low, long high) {
        due(told + ": sort", x.sort(slot), sort);
        due(told + ": low", x.low(slot), low);
        due(told + ": high", x.high(slot), high);
    }

    private static long d(double v) {
        return Double.doubleToRawLongBits(v);
    }

    private static long f(double v) {
        return Float.floatToRawIntBits((float) v);
    }

    private static StretchDesk with(int sort, long low, long high) {
        StretchDesk x = new StretchDesk();
        due("set", x.set(0, sort, low, high), 1);
        return x;
    }

    private static void dueSet(int sort, long low, long high, long toldLow, long toldHigh) {
        StretchDesk x = new StretchDesk();
        String told = "set of SORT " + sort + ", " + low + " .. " + high;
        due(told, x.set(0, sort, low, high), 1);
        dueRange(told, x, 0, sort, toldLow, toldHigh);
    }

    private static void dueStays(int sort, long low, long high) {
        dueSet(sort, low, high, low, high);
    }

    private static void callsUpToThe512th() {
        sentence = "What it is, 'An object is used for at most 512 calls after it has been made'";
        StretchDesk x = with(INT, -3, 5);
        x.step(0, 6, 0, 0, 0);
        for (int call = 3; call <= 506; call++) {
            if (call % 2 == 1) {
                due("call " + call + ", run", x.run(0, 1), 1);
            } else {
                due("call " + call + ", low", x.low(0), call % 4 == 0 ? -5 : -3);
            }
        }
        due("call 507, about 4", x.about(4), 252);
        due("call 508, about 3", x.about(3), 252);
        due("call 509, low", x.low(0), -3);
        due("call 510, turn", x.turn(0, 15), 1);
        due("call 511, high", x.high(15), 3);
        due("call 512, about 3", x.about(3), 254);
    }

    private static void sortsFrom0To3() {
        of("SORTS: 0 INT, 1 LONG (whole, with sign, of 32 and 64 bits), 2 FLOAT, 3 DOUBLE");
        for (int sort = INT; sort <= DOUBLE; sort++) {
            dueStays(sort, 1, 2);
        }
        int[] none = {-1, 4, LEAST_INT, GREATEST_INT};
        for (int sort : none) {
            due("set of SORT " + sort, new StretchDesk().set(0, sort, 1, 2), -4);
        }
    }

    private static void wholeOnesOf32And64Bits() {
        of("whole, with sign, of 32 and 64 bits");
        dueStays(INT, LEAST_INT, GREATEST_INT);
        dueStays(INT, -1, 0);
        dueStays(LONG, LEAST_LONG, GREATEST_LONG);
        dueStays(LONG, LEAST_INT - 1L, GREATEST_INT + 1L);
    }

    private static void infinitiesZerosAndLeastOnes() {
        of("infinities, both zeros and the least ones, too");
        dueStays(FLOAT, f(-INFINITE), f(INFINITE));
        dueStays(FLOAT, f(INFINITE), f(INFINITE));
        dueStays(FLOAT, f(-INFINITE), f(-INFINITE));
        dueStays(FLOAT, f(-0.0), f(-0.0));
        dueStays(FLOAT, f(0.0), f(0.0));
        dueStays(FLOAT, f(-Float.MIN_VALUE), f(Float.MIN_VALUE));
        dueStays(FLOAT, f(-Float.MAX_VALUE), f(Float.MAX_VALUE));
        dueStays(DOUBLE, d(-INFINITE), d(INFINITE));
        dueStays(DOUBLE, d(INFINITE), d(INFINITE));
        dueStays(DOUBLE, d(-INFINITE), d(-INFINITE));
        dueStays(DOUBLE, d(-0.0), d(-0.0));
        dueStays(DOUBLE, d(0.0), d(0.0));
        dueStays(DOUBLE, d(-Double.MIN_VALUE), d(Double.MIN_VALUE));
        dueStays(DOUBLE, d(-Double.MAX_VALUE), d(Double.MAX_VALUE));
    }

    private static void nothingThatIsNotANumber() {
        of("but nothing that is not a number");
        long[] noFloats = {NO_FLOAT, 0x7FC00000L, 0x7FFFFFFFL, (int) 0xFF800001, (int) 0xFFC00000, -1L, 0xFFFFFFFFL,
            0x7_7F800001L};
        for (long v : noFloats) {
            dueNoNumber(FLOAT, v, f(-INFINITE), f(INFINITE));
        }
        long[] noDoubles = {NO_DOUBLE, 0x7FF8000000000000L, GREATEST_LONG, 0xFFF0000000000001L, 0xFFF8000000000000L,
            -1L};
        for (long v : noDoubles) {
            dueNoNumber(DOUBLE, v, d(-INFINITE), d(INFINITE));
        }
    }

    private static void dueNoNumber(int sort, long v, long low, long high) {
        StretchDesk x = with(sort, low, high);
        String told = "SORT " + sort + ", bits " + Long.toHexString(v);
        due(told + ": set low", x.set(1, sort, v, high), -4);
        due(told + ": set high", x.set(1, sort, low, v), -4);
        due(told + ": has", x.has(0, v), -4);
        due(told + ": near", x.near(0, v), 0);
        due(told + ": near, state", x.state(), -4);
    }

    private static void aLongAsItIs() {
        of("a LONG as it is");
        dueStays(LONG, -0x1_0000_0000L, 0x1_0000_0000L);
        StretchDesk x = with(LONG, 0, 0x2_0000_0000L);
        due("near", x.near(0, 0x1_FFFF_FFFFL), 0x1_FFFF_FFFFL);
        due("has", x.has(0, 0x3_0000_0001L), 0);
    }

    private static void ofAnIntTheLowest32Bits() {
        of("of an INT the lowest 32 bits count (told with sign)");
        dueSet(INT, 0x1_0000_0000L, 0x1_0000_0001L, 0, 1);
        dueSet(INT, 0xFFFF_FFFFL, 0, -1, 0);
        dueSet(INT, 0x8000_0000L, 0x7FFF_FFFFL, LEAST_INT, GREATEST_INT);
        dueSet(INT, LEAST_LONG, GREATEST_LONG - 0xFFFF_FFF8L, 0, 7);
        due("set 1 .. 2^32", new StretchDesk().set(0, INT, 1, 1L << 32), -5);
        StretchDesk x = with(INT, -2, 5);
        due("near of 2^32 + 3", x.near(0, 0x1_0000_0003L), 3);
        due("near of 2^32 - 1", x.near(0, 0xFFFF_FFFFL), -1);
        due("near of 2^31", x.near(0, 0x8000_0000L), -2);
        due("has 2^32 + 5", x.has(0, 0x1_0000_0005L), 1);
        due("has 2^32 - 3", x.has(0, 0xFFFF_FFFDL), 0);
    }

    private static void ofAFloatItsBits() {
        of("of a FLOAT these are its bits (told as an int is, with sign)");
        dueSet(FLOAT, 0xBF80_0000L, 0x3F80_0000L, (int) 0xBF800000, 0x3F800000);
        dueSet(FLOAT, 0x8000_0000L, 0x1_0000_0000L, LEAST_INT, 0);
        dueSet(FLOAT, 0x7_FF80_0000L, LEAST_LONG | 0x7F80_0000L, (int) 0xFF800000, 0x7F800000);
        StretchDesk x = with(FLOAT, f(-3), f(5));
        due("near of -2", x.near(0, f(-2) & 0xFFFF_FFFFL), f(-2));
        due("near of 1, bits above", x.near(0, 0xABCD_0000_0000L | f(1)), f(1));
        due("has -3", x.has(0, f(-3) & 0xFFFF_FFFFL), 1);
        due("has 6, bits above", x.has(0, 0xABCD_0000_0000L | f(6)), 0);
    }

    private static void aDoubleByItsBits() {
        of("a DOUBLE by its bits");
        dueStays(DOUBLE, 0xBFF0_0000_0000_0001L, 0x3FF0_0000_0000_0001L);
        StretchDesk x = with(DOUBLE, d(-3), d(5));
        due("near", x.near(0, 0x3FF0_0000_0000_0001L), 0x3FF0_0000_0000_0001L);
        due("near of the least one", x.near(0, 1), 1);
    }

    private static void theOrder() {
        of("The ORDER: as numbers, and -0 is less than 0");
        dueOrder(INT, new long[] {LEAST_INT, -2, -1, 0, 1, 2, GREATEST_INT});
        dueOrder(LONG, new long[] {LEAST_LONG, LEAST_INT - 1L, -1, 0, 1, GREATEST_INT + 1L, GREATEST_LONG});
        dueOrder(FLOAT, new long[] {f(-INFINITE), f(-Float.MAX_VALUE), f(-2), f(-1), f(-Float.MIN_VALUE), f(-0.0),
            f(0.0), f(Float.MIN_VALUE), f(1), f(2), f(Float.MAX_VALUE), f(INFINITE)});
        dueOrder(DOUBLE, new long[] {d(-INFINITE), d(-Double.MAX_VALUE), d(-2), d(-1), d(-Double.MIN_VALUE), d(-0.0),
            d(0.0), d(Double.MIN_VALUE), d(1), d(2), d(Double.MAX_VALUE), d(INFINITE)});
    }

    private static void dueOrder(int sort, long[] rising) {
        StretchDesk x = new StretchDesk();
        for (int i = 0; i < rising.length; i++) {
            for (int j = 0; j < rising.length; j++) {
                due("SORT " + sort + ", set " + rising[i] + " .. " + rising[j],
                        x.set(0, sort, rising[i], rising[j]), i <= j ? 1 : -5);
            }
        }
    }

    private static void orderedEnds() {
        of("ORDERED are two ends when the lesser one is LOW, the other one HIGH");
        StretchDesk x = with(INT, -3, -1);
        x.turn(0, 1);
        dueRange("turn", x, 1, INT, 1, 3);
        x.size(0, 1);
        dueRange("size", x, 1, INT, 1, 3);
        x.set(0, LONG, 1, 0x8000_0000L);
        x.as(0, INT, 1);
        dueRange("as", x, 1, INT, LEAST_INT, 1);
        x.set(0, FLOAT, f(-0.0), f(0.0));
        x.turn(0, 1);
        dueRange("turn of both zeros", x, 1, FLOAT, f(-0.0), f(0.0));
        x.set(0, DOUBLE, d(1), d(2));
        x.set(1, DOUBLE, d(-2), d(-1));
        x.lend(0, 1, 2);
        dueRange("lend", x, 2, DOUBLE, d(-2), d(-1));
    }

    private static void slotsFrom0To15() {
        of("A SLOT (0 .. 15)");
        StretchDesk x = new StretchDesk();
        for (int slot = 0; slot < 16; slot++) {
            due("set " + slot, x.set(slot, INT, slot, slot + 100), 1);
        }
        for (int slot = 0; slot < 16; slot++) {
            dueRange("slot " + slot, x, slot, INT, slot, slot + 100);
        }
        for (int slot : new int[] {-1, 16, LEAST_INT, GREATEST_INT}) {
            due("set " + slot, x.set(slot, INT, 0, 0), -2);
            due("sort " + slot, x.sort(slot), -2);
            due("turn " + slot, x.turn(slot, 0), -2);
            due("turn to " + slot, x.turn(0, slot), -2);
        }
    }

    private static void emptyAtFirst() {
        of("A SLOT (0 .. 15) is EMPTY (at first), or has a RANGE");
        StretchDesk x = new StretchDesk();
        for (int slot = 0; slot < 16; slot++) {
            due("sort " + slot, x.sort(slot), -3);
            due("clear " + slot, x.clear(slot), 0);
        }
        x.set(7, LONG, 3, 4);
        dueRange("slot 7", x, 7, LONG, 3, 4);
        due("sort 6", x.sort(6), -3);
        due("sort 8", x.sort(8), -3);
    }

    private static void lowNotGreaterThanHigh() {
        of("its LOW and its HIGH end, LOW not greater than HIGH");
        dueStays(INT, 4, 4);
        dueStays(LONG, LEAST_LONG, LEAST_LONG);
        dueStays(FLOAT, f(-1.5), f(-1.5));
        dueStays(DOUBLE, d(1.5), d(1.5));
        due("set 5 .. 4", new StretchDesk().set(0, INT, 5, 4), -5);
    }

    private static void aNumberIsInIt() {
        of("A number is in it if it is not less than LOW and not greater than HIGH");
        dueIn(INT, -6, -5, 3, 4);
        dueIn(LONG, LEAST_LONG, LEAST_LONG + 1, GREATEST_LONG - 1, GREATEST_LONG);
        dueIn(FLOAT, f(-0.0), f(0.0), f(1), f(1) + 1);
        dueIn(FLOAT, f(-2) + 1, f(-2), f(-0.0), f(0.0));
        dueIn(DOUBLE, d(-INFINITE), d(-Double.MAX_VALUE), d(Double.MAX_VALUE), d(INFINITE));
        dueIn(DOUBLE, d(-0.0), d(0.0), d(0.0), d(Double.MIN_VALUE));
    }

    private static void dueIn(int sort, long below, long low, long high, long above) {
        StretchDesk x = with(sort, low, high);
        due("has below " + low, x.has(0, below), 0);
        due("has LOW " + low, x.has(0, low), 1);
        due("has HIGH " + high, x.has(0, high), 1);
        due("has above " + high, x.has(0, above), 0);
    }

    private static void inThePlaceOfWhatWasThere() {
        of("What comes to a slot is in the place of what was there");
        StretchDesk x = with(INT, 1, 2);
        due("set", x.set(0, DOUBLE, d(-7), d(-6)), 1);
        dueRange("set", x, 0, DOUBLE, d(-7), d(-6));
        x.set(1, LONG, 8, 9);
        due("turn", x.turn(0, 1), 1);
        dueRange("turn", x, 1, DOUBLE, d(6), d(7));
        dueRange("what was taken stays", x, 0, DOUBLE, d(-7), d(-6));
        due("hull", x.hull(0, 0, 1), 1);
        dueRange("hull", x, 1, DOUBLE, d(-7), d(-6));
        due("as", x.as(0, INT, 1), 1);
        dueRange("as", x, 1, INT, -7, -6);
        due("one in the place of another", x.about(0), 2);
    }

    private static void bothTakenAndCameTo() {
        of("a slot may be both what is taken and where it comes to");
        StretchDesk x = new StretchDesk();
        dueOntoBoth("hull", x, 0, d(-2.5), d(3));
        dueOntoBoth("meet", x, 1, d(-1), d(1.5));
        dueOntoBoth("lend", x, 5, d(-2.5), d(1.5));
        long[][] ofOne = {{2, 0, d(0.0), d(2.5)}, {3, 3, d(-3), d(2)}, {4, 0, d(-1), d(1)}, {6, 0, d(-1.5), d(2.5)},
            {7, 1, -2, 1}};
        for (long[] c : ofOne) {
            x.set(0, DOUBLE, d(-2.5), d(1.5));
            due("what " + c[0], did(x, (int) c[0], 0, (int) c[1], 0), 1);
            dueRange("what " + c[0], x, 0, c[0] == 7 ? LONG : DOUBLE, c[2], c[3]);
        }
    }

    private static void dueOntoBoth(String name, StretchDesk x, int what, long low, long high) {
        for (int to = 0; to < 2; to++) {
            x.set(0, DOUBLE, d(-2.5), d(1.5));
            x.set(1, DOUBLE, d(-1), d(3));
            due(name + " to " + to, did(x, what, 0, 1, to), 1);
            dueRange(name + " to " + to, x, to, DOUBLE, low, high);
        }
        x.set(0, DOUBLE, d(-2.5), d(1.5));
        due(name + " of one slot to itself", did(x, what, 0, 0, 0), 1);
        dueRange(name + " of one slot to itself", x, 0, DOUBLE, d(-2.5), d(1.5));
    }

    private static int did(StretchDesk x, int what, int a, int b, int to) {
        switch (what) {
            case 0: return x.hull(a, b, to);
            case 1: return x.meet(a, b, to);
            case 2: return x.size(a, to);
            case 3: return x.round(a, b, to);
            case 4: return x.sign(a, to);
            case 5: return x.lend(a, b, to);
            case 6: return x.turn(a, to);
            default: return x.as(a, b, to);
        }
    }

    // Slots 0 to 3 have a range of each SORT, slot 4 a DOUBLE too; 15 is EMPTY, and step 11 is not there.
    private static StretchDesk laidOut() {
        StretchDesk x = new StretchDesk();
        x.set(0, INT, -5, 3);
        x.set(1, LONG, -6, 4);
        x.set(2, FLOAT, f(-1.5), f(2.5));
        x.set(3, DOUBLE, d(-2.5), d(3.5));
        x.set(4, DOUBLE, d(0.25), d(0.75));
        for (int k = 0; k < 11; k++) {
            x.step(k, k % 2 == 0 ? 6 : 2, k % 5, 0, 5 + k % 10);
        }
        x.low(0);
        x.run(0, 2);
        return x;
    }

    private static void lookAtSlots(StretchDesk x, StringBuilder seen) {
        for (int slot = 0; slot < 16; slot++) {
            seen.append(x.sort(slot)).append(' ').append(x.low(slot)).append(' ').append(x.high(slot)).append("; ");
        }
    }

    // All that can be seen of a desk: its slots, its counts but for that of what was REFUSED, and what its chain does.
    private static String seen(StretchDesk x) {
        StringBuilder seen = new StringBuilder();
        for (int what : new int[] {0, 1, 3, 4}) {
            seen.append(x.about(what)).append("; ");
        }
        lookAtSlots(x, seen);
        for (int k = 0; k < 12; k++) {
            seen.append(x.run(k, 1)).append("; ");
        }
        lookAtSlots(x, seen);
        return seen.toString();
    }

    // Of each call, a row for each way in which it can be REFUSED; where other ways hold too, they are later ones.
    private static List<Refused> refusedCalls() {
        List<Refused> all = new ArrayList<>();
        addOfSlotCalls(all);
        addOfTwo(all, "hull", 0);
        addOfTwo(all, "meet", 1);
        addOfTwo(all, "lend", 5);
        addOfOne(all, "size", 2, 0);
        addOfOne(all, "round", 3, 9);
        addOfOne(all, "sign", 4, 0);
        addOfOne(all, "turn", 6, 0);
        addOfOne(all, "as", 7, 9);
        addOfSortAndHow(all);
        addOfNumbers(all);
        addOfChain(all);
        return all;
    }

    private static void add(List<Refused> all, String name, int code, Call call) {
        all.add(new Refused(name, code, false, call));
    }

    private static void addWide(List<Refused> all, String name, int code, Call call) {
        all.add(new Refused(name, code, true, call));
    }

    private static void addOfSlotCalls(List<Refused> all) {
        add(all, "set: no slot, no SORT, upside down", -2, x -> x.set(16, 9, 2, 1));
        add(all, "set: no slot, not a number", -2, x -> x.set(-1, DOUBLE, NO_DOUBLE, d(1)));
        add(all, "set: no slot, upside down", -2, x -> x.set(16, INT, 2, 1));
        add(all, "set: no SORT, upside down", -4, x -> x.set(0, 4, 2, 1));
        add(all, "set: LOW not a number, above HIGH by its bits", -4, x -> x.set(3, DOUBLE, NO_DOUBLE, d(1)));
        add(all, "set: HIGH not a number, below LOW by its bits", -4, x -> x.set(2, FLOAT, f(1), -1));
        add(all, "set: upside down", -5, x -> x.set(0, INT, 2, 1));
        add(all, "clear: no slot", -2, x -> x.clear(16));
        add(all, "clear: no slot", -2, x -> x.clear(-1));
        add(all, "sort: no slot", -2, x -> x.sort(16));
        add(all, "sort: EMPTY", -3, x -> x.sort(15));
        addWide(all, "low: no slot", -2, x -> x.low(16));
        addWide(all, "low: EMPTY", -3, x -> x.low(15));
        addWide(all, "high: no slot", -2, x -> x.high(-1));
        addWide(all, "high: EMPTY", -3, x -> x.high(15));
        add(all, "alike: a no slot, b EMPTY", -2, x -> x.alike(16, 15));
        add(all, "alike: a EMPTY, b no slot", -2, x -> x.alike(15, -1));
        add(all, "alike: a EMPTY", -3, x -> x.alike(15, 0));
        add(all, "alike: b EMPTY", -3, x -> x.alike(0, 15));
    }

    private static void addOfTwo(List<Refused> all, String name, int what) {
        add(all, name + ": a no slot, b EMPTY", -2, x -> did(x, what, 16, 15, 2));
        add(all, name + ": a EMPTY, b no slot", -2, x -> did(x, what, 15, -1, 2));
        add(all, name + ": a EMPTY, to no slot", -2, x -> did(x, what, 15, 0, 16));
        add(all, name + ": two SORTS, to no slot", -2, x -> did(x, what, 2, 3, -1));
        add(all, name + ": a EMPTY, b an INT", -3, x -> did(x, what, 15, 0, 2));
        add(all, name + ": a an INT, b EMPTY", -3, x -> did(x, what, 0, 15, 2));
        add(all, name + ": both EMPTY", -3, x -> did(x, what, 15, 15, 2));
        add(all, name + ": FLOAT and DOUBLE", -4, x -> did(x, what, 2, 3, 2));
        add(all, name + ": INT and LONG", -4, x -> did(x, what, 0, 1, 2));
    }

    private static void addOfOne(List<Refused> all, String name, int what, int wrongB) {
        add(all, name + ": a no slot, another b", -2, x -> did(x, what, 16, wrongB, 2));
        add(all, name + ": a EMPTY, to no slot, another b", -2, x -> did(x, what, 15, wrongB, -1));
        add(all, name + ": a an INT, to no slot, another b", -2, x -> did(x, what, 0, wrongB, 16));
        add(all, name + ": a EMPTY, another b", -3, x -> did(x, what, 15, wrongB, 2));
    }

    private static void addOfSortAndHow(List<Refused> all) {
        add(all, "round: INT, another how", -4, x -> x.round(0, 5, 2));
        add(all, "round: LONG, another how", -4, x -> x.round(1, -1, 2));
        add(all, "round: another how", -5, x -> x.round(2, 5, 2));
        add(all, "sign: INT", -4, x -> x.sign(0, 2));
        add(all, "sign: LONG", -4, x -> x.sign(1, 2));
        add(all, "lend: INT twice", -4, x -> x.lend(0, 0, 2));
        add(all, "lend: LONG twice", -4, x -> x.lend(1, 1, 2));
        add(all, "as: no SORT", -4, x -> x.as(0, 4, 2));
    }

    private static void addOfNumbers(List<Refused> all) {
        addWide(all, "near: no slot, not a number", -2, x -> x.near(16, -1));
        addWide(all, "near: EMPTY, not a number", -3, x -> x.near(15, -1));
        addWide(all, "near: not a number", -4, x -> x.near(3, NO_DOUBLE));
        add(all, "has: no slot, not a number", -2, x -> x.has(-1, -1));
        add(all, "has: EMPTY, not a number", -3, x -> x.has(15, -1));
        add(all, "has: not a number", -4, x -> x.has(2, NO_FLOAT));
    }

    private static void addOfChain(List<Refused> all) {
        add(all, "step: a no slot, no such k, what", -2, x -> x.step(12, 8, 16, 0, 0));
        add(all, "step: to no slot, no such k", -2, x -> x.step(-1, 2, 0, 0, 16));
        add(all, "step: to no slot, no such what", -2, x -> x.step(11, -1, 0, 0, -1));
        add(all, "step: b no slot, no such k", -2, x -> x.step(12, 0, 0, 16, 0));
        add(all, "step: a no slot", -2, x -> x.step(11, 6, 16, 0, 0));
        add(all, "step: a no slot, of a step that is there", -2, x -> x.step(0, 2, -1, 0, 0));
        add(all, "step: no such k", -5, x -> x.step(12, 6, 0, 0, 0));
        add(all, "step: no such what", -5, x -> x.step(11, 8, 0, 0, 0));
        add(all, "step: no such what, of a step that is there", -5, x -> x.step(0, 8, 0, 0, 0));
        add(all, "run: no such k", -5, x -> x.run(12, 1));
        add(all, "run: no such n", -5, x -> x.run(0, 13));
    }

    private static void refusedWithNothingChanged() {
        of("REFUSED, with nothing changed");
        String want = seen(laidOut());
        for (Refused r : refusedCalls()) {
            StretchDesk x = laidOut();
            r.call.on(x);
            due(r.name + ", state", x.state(), r.code);
            dueText(r.name, seen(x), want);
        }
    }

    private static void theFirstThatHolds() {
        of("the first of these that holds: -2 a slot that is told is none; -3 a slot that is taken is EMPTY; -4 SORT: "
                + "as told; -5 as told");
        for (Refused r : refusedCalls()) {
            StretchDesk x = laidOut();
            long got = r.call.on(x);
            due(r.name, r.isWide ? x.state() : got, r.code);
        }
    }

    private static void callsOf64BitsAnswer0() {
        of("Calls of 64 bits answer 0 then; state() tells");
        int looked = 0;
        for (Refused r : refusedCalls()) {
            if (r.isWide) {
                StretchDesk x = laidOut();
                due(r.name, r.call.on(x), 0);
                due(r.name + ", state", x.state(), r.code);
                looked++;
            }
        }
        due("such calls", looked, 7);
        StretchDesk x = with(LONG, -3, -2);
        due("low, a number that is -3", x.low(0), -3);
        due("low, a number that is -3: state", x.state(), 0);
        due("high, a number that is -2", x.high(0), -2);
        due("high, a number that is -2: state", x.state(), 0);
        due("near, a number that is -3", x.near(0, -4), -3);
        due("near, a number that is -3: state", x.state(), 0);
        due("none of these is REFUSED", x.about(2), 0);
        x.set(1, LONG, 0, 0);
        x.low(15);
        due("low, a number that is 0", x.low(1), 0);
        due("low, a number that is 0: state", x.state(), 0);
    }

    public static void main(String[] args) {
        callsUpToThe512th();
        sortsFrom0To3();
        wholeOnesOf32And64Bits();
        infinitiesZerosAndLeastOnes();
        nothingThatIsNotANumber();
        aLongAsItIs();
        ofAnIntTheLowest32Bits();
        ofAFloatItsBits();
        aDoubleByItsBits();
        theOrder();
        orderedEnds();
        slotsFrom0To15();
        emptyAtFirst();
        lowNotGreaterThanHigh();
        aNumberIsInIt();
        inThePlaceOfWhatWasThere();
        bothTakenAndCameTo();
        refusedWithNothingChanged();
        theFirstThatHolds();
        callsOf64BitsAnswer0();
        System.out.println(wrong == 0 ? "all answers are as due" : wrong + " answers are not as due");
        if (wrong != 0) {
            System.exit(1);
        }
    }
}
