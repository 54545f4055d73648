import java.util.Random;

// Drawn runs of calls, each answer beside that of a second desk, which has Java's own floats and doubles at hand.
// The seed is fixed, so that each time the same runs are drawn.
public final class OracleTest {
    private static final int RUNS = 10000;
    // A drawn call is four calls at most, with those that look at what it did, and the two looks at all slots are 79
    // each: together no more than the 512 that the document promises.
    private static final int DRAWN_CALLS = 88;

    private static int wrong = 0;

    // A range with its ends as Java's own numbers: Integer, Long, Float or Double.
    private static final class Range {
        final int sort;
        final Number low;
        final Number high;

        Range(int sort, Number low, Number high) {
            this.sort = sort;
            this.low = low;
            this.high = high;
        }

        static Range ordered(int sort, Number one, Number other) {
            return compare(one, other) <= 0 ? new Range(sort, one, other) : new Range(sort, other, one);
        }
    }

    private static Number number(int sort, long v) {
        switch (sort) {
            case 0: return Integer.valueOf((int) v);
            case 1: return Long.valueOf(v);
            case 2: return Float.valueOf(Float.intBitsToFloat((int) v));
            default: return Double.valueOf(Double.longBitsToDouble(v));
        }
    }

    private static long bits(Number n) {
        if (n instanceof Float) {
            return Float.floatToRawIntBits((Float) n);
        }
        return n instanceof Double ? Double.doubleToRawLongBits((Double) n) : n.longValue();
    }

    private static int compare(Number one, Number other) {
        if (one instanceof Float) {
            return Float.compare((Float) one, (Float) other);
        }
        if (one instanceof Double) {
            return Double.compare((Double) one, (Double) other);
        }
        return Long.compare(one.longValue(), other.longValue());
    }

    private static boolean isNan(Number n) {
        return n.doubleValue() != n.doubleValue();
    }

    private static Number min(Number one, Number other) {
        return compare(one, other) <= 0 ? one : other;
    }

    private static Number max(Number one, Number other) {
        return compare(one, other) >= 0 ? one : other;
    }

    private static Number ofDouble(int sort, double v) {
        return sort == 2 ? (Number) Float.valueOf((float) v) : (Number) Double.valueOf(v);
    }

    private static Number abs(Number n) {
        if (n instanceof Integer) {
            return Math.abs((Integer) n);
        }
        if (n instanceof Long) {
            return Math.abs((Long) n);
        }
        return n instanceof Float ? (Number) Math.abs((Float) n) : (Number) Math.abs((Double) n);
    }

    private static Number negated(Number n) {
        if (n instanceof Integer) {
            return -(Integer) n;
        }
        if (n instanceof Long) {
            return -(Long) n;
        }
        return n instanceof Float ? (Number) (-(Float) n) : (Number) (-(Double) n);
    }

    private static Number rounded(int sort, Number n, int way) {
        double v = n.doubleValue();
        return ofDouble(sort, way == 0 ? Math.floor(v) : way == 1 ? Math.ceil(v) : Math.rint(v));
    }

    // Number's own intValue() and the like are Java's casts.
    private static Number cast(Number n, int sort) {
        switch (sort) {
            case 0: return n.intValue();
            case 1: return n.longValue();
            case 2: return n.floatValue();
            default: return n.doubleValue();
        }
    }

    private static final class Oracle {
        final Range[] slots = new Range[16];
        final int[][] steps = new int[12][];
        int state;
        int refused;
        int told;
        int done;

        boolean bad(int slot) {
            return slot < 0 || slot > 15;
        }

        long note(long answer) {
            state = answer < 0 ? (int) answer : 0;
            refused += answer < 0 ? 1 : 0;
            return answer;
        }

        int put(int to, Range r) {
            slots[to] = r == null || compare(r.low, r.high) > 0 ? null : r;
            return slots[to] == null ? 0 : 1;
        }

        int set(int slot, int sort, long low, long high) {
            if (bad(slot)) {
                return -2;
            }
            if (sort < 0 || sort > 3 || isNan(number(sort, low)) || isNan(number(sort, high))) {
                return -4;
            }
            Range r = new Range(sort, number(sort, low), number(sort, high));
            return compare(r.low, r.high) > 0 ? -5 : put(slot, r);
        }

        int two(int what, int a, int b, int to) {
            if (bad(a) || bad(b) || bad(to)) {
                return -2;
            }
            Range x = slots[a];
            Range y = slots[b];
            if (x == null || y == null) {
                return -3;
            }
            if (x.sort != y.sort || (what == 5 && x.sort < 2)) {
                return -4;
            }
            if (what == 0) {
                return put(to, new Range(x.sort, min(x.low, y.low), max(x.high, y.high)));
            }
            if (what == 1) {
                return put(to, new Range(x.sort, max(x.low, y.low), min(x.high, y.high)));
            }
            return put(to, Range.ordered(x.sort,
                    ofDouble(x.sort, Math.copySign(x.low.doubleValue(), y.low.doubleValue())),
                    ofDouble(x.sort, Math.copySign(x.high.doubleValue(), y.high.doubleValue()))));
        }

        int one(int what, int a, int b, int to) {
            if (bad(a) || bad(to)) {
                return -2;
            }
            Range x = slots[a];
            if (x == null) {
                return -3;
            }
            if (((what == 3 || what == 4) && x.sort < 2) || (what == 7 && (b < 0 || b > 3))) {
                return -4;
            }
            if (what == 3 && (b < 0 || b > 4)) {
                return -5;
            }
            switch (what) {
                case 2:
                    return put(to, sizes(x));
                case 3:
                    return put(to, new Range(x.sort, rounded(x.sort, x.low, new int[] {0, 1, 2, 0, 1}[b]),
                            rounded(x.sort, x.high, new int[] {0, 1, 2, 1, 0}[b])));
                case 4:
                    return put(to, new Range(x.sort, ofDouble(x.sort, Math.signum(x.low.doubleValue())),
                            ofDouble(x.sort, Math.signum(x.high.doubleValue()))));
                case 6:
                    return put(to, Range.ordered(x.sort, negated(x.low), negated(x.high)));
                default:
                    return put(to, Range.ordered(b, cast(x.low, b), cast(x.high, b)));
            }
        }

        Range sizes(Range x) {
            if (x.low.doubleValue() >= 0 || x.high.doubleValue() <= 0) {
                return Range.ordered(x.sort, abs(x.low), abs(x.high));
            }
            return Range.ordered(x.sort, number(x.sort, 0), max(abs(x.low), abs(x.high)));
        }

        int act(int what, int a, int b, int to) {
            return what == 0 || what == 1 || what == 5 ? two(what, a, b, to) : one(what, a, b, to);
        }

        int take(int slot) {
            return bad(slot) ? -2 : slots[slot] == null ? -3 : 0;
        }

        long end(int slot, boolean isLow) {
            if (note(take(slot)) < 0) {
                return 0;
            }
            told++;
            return bits(isLow ? slots[slot].low : slots[slot].high);
        }

        int takeNumber(int a, long v) {
            int refusal = take(a);
            return refusal < 0 ? refusal : isNan(number(slots[a].sort, v)) ? -4 : 0;
        }

        long near(int a, long v) {
            if (note(takeNumber(a, v)) < 0) {
                return 0;
            }
            return bits(min(max(number(slots[a].sort, v), slots[a].low), slots[a].high));
        }

        long has(int a, long v) {
            int refusal = takeNumber(a, v);
            if (refusal < 0) {
                return refusal;
            }
            Number n = number(slots[a].sort, v);
            return compare(n, slots[a].low) >= 0 && compare(n, slots[a].high) <= 0 ? 1 : 0;
        }

        int alike(int a, int b) {
            if (bad(a) || bad(b)) {
                return -2;
            }
            Range x = slots[a];
            Range y = slots[b];
            if (x == null || y == null) {
                return -3;
            }
            return x.sort == y.sort && bits(x.low) == bits(y.low) && bits(x.high) == bits(y.high) ? 1 : 0;
        }

        int clear(int slot) {
            if (bad(slot)) {
                return -2;
            }
            int answer = slots[slot] == null ? 0 : 1;
            slots[slot] = null;
            return answer;
        }

        int step(int k, int what, int a, int b, int to) {
            if (bad(a) || bad(to) || ((what == 0 || what == 1 || what == 5) && bad(b))) {
                return -2;
            }
            if (k < 0 || k > 11 || what < 0 || what > 7) {
                return -5;
            }
            steps[k] = new int[] {what, a, b, to};
            return 1;
        }

        long run(int k, int n) {
            if (k < 0 || k > 11 || n < 0 || n > 12) {
                return note(-5);
            }
            note(0);
            int count = 0;
            while (count < n && k + count < 12 && steps[k + count] != null) {
                int[] s = steps[k + count];
                if (note(act(s[0], s[1], s[2], s[3])) < 0) {
                    break;
                }
                count++;
            }
            done += count;
            return count;
        }

        int about(int what) {
            int full = 0;
            for (Range r : slots) {
                full += r == null ? 0 : 1;
            }
            int there = 0;
            for (int[] s : steps) {
                there += s == null ? 0 : 1;
            }
            int[] answers = {full, there, refused, told, done};
            return what < 0 || what > 4 ? -1 : answers[what];
        }
    }

    private static int slot(Random r, int used) {
        int v = r.nextInt(60);
        return v == 0 ? -1 : v == 1 ? 16 : v == 2 ? r.nextInt() : r.nextInt(used);
    }

    private static int small(Random r, int bound) {
        int v = r.nextInt(bound * 10);
        return v == 0 ? -1 : v == 1 ? bound : v % bound;
    }

    // Numbers crowd where the rules turn: at zero, at halves, at the ends of each sort, at the least broken ones.
    private static double drawnDouble(Random r) {
        switch (r.nextInt(12)) {
            case 0: return r.nextInt(9) * 0.25 - 1;
            case 1: return r.nextBoolean() ? 0.0 : -0.0;
            case 2: return r.nextBoolean() ? Double.POSITIVE_INFINITY : Double.NEGATIVE_INFINITY;
            case 3: return (r.nextInt(2001) - 1000) * 0.5;
            case 4: return Math.scalb((double) r.nextLong(), r.nextInt(140) - 130);
            case 5: return Math.scalb(r.nextDouble() - 0.5, r.nextInt(30) - 155);
            case 6: return Math.nextAfter(Math.scalb(r.nextBoolean() ? 1.0 : -1.0, r.nextInt(70)), r.nextInt(3) - 1);
            case 7: return Float.intBitsToFloat(r.nextInt()) * (1 + (r.nextInt(5) - 2) * 0x1p-25);
            case 8: return Math.scalb((r.nextInt(64) - 32) + 0.5, -150 + r.nextInt(3));
            case 9: return (r.nextBoolean() ? 1 : -1) * (0x1.fffffep127 + r.nextInt(3) * 0x1p102 + r.nextInt(3) * 0x1p80);
            case 10: return r.nextInt() + r.nextInt(8) * 0.125;
            default: return Double.longBitsToDouble(r.nextLong());
        }
    }

    private static long drawnWhole(Random r) {
        switch (r.nextInt(6)) {
            case 0: return r.nextInt(11) - 5;
            case 1: return (r.nextBoolean() ? Long.MIN_VALUE : Integer.MIN_VALUE) + r.nextInt(3) - 1;
            case 2: return r.nextLong() >> r.nextInt(64);
            case 3: return (1L << r.nextInt(64)) + r.nextInt(5) - 2;
            case 4: return ((r.nextLong() | 1) >> r.nextInt(40)) & (-1L << r.nextInt(40)) | (1L << r.nextInt(40));
            default: return r.nextInt();
        }
    }

    private static long drawn(Random r, int sort) {
        if (sort == 2) {
            long v = r.nextInt(8) == 0 ? r.nextInt() : Float.floatToRawIntBits((float) drawnDouble(r));
            return r.nextInt(8) == 0 ? v ^ ((long) r.nextInt() << 32) : v;
        }
        return sort == 3 ? Double.doubleToRawLongBits(drawnDouble(r)) : drawnWhole(r);
    }

    private static void due(long seed, int call, String told, long got, long want) {
        if (got != want) {
            wrong++;
            if (wrong < 50) {
                System.out.println("run " + seed + ", call " + call + ": " + told + " answered " + got
                        + ", due is " + want);
            }
        }
    }

    private static int drawnSecond(Random r, int what, int used) {
        return what == 3 ? small(r, 5) : what == 7 ? small(r, 4) : slot(r, used);
    }

    private static void call(Random r, StretchDesk x, Oracle o, long seed, int i) {
        int used = seed % 3 == 0 ? 16 : 5;
        int a = slot(r, used);
        int b = slot(r, used);
        int to = slot(r, used);
        int what = small(r, 8);
        int kind = r.nextInt(20);
        if (kind < 6) {
            int sort = seed % 2 == 0 ? (int) (seed / 2 % 4) : small(r, 4);
            long v = drawn(r, sort);
            long w = drawn(r, sort);
            boolean isSwapped = sort >= 0 && sort < 4 && compare(number(sort, v), number(sort, w)) > 0
                    && r.nextInt(10) != 0;
            long low = isSwapped ? w : v;
            long high = isSwapped ? v : w;
            due(seed, i, "set(" + a + ", " + sort + ", " + low + ", " + high + ")", x.set(a, sort, low, high),
                    o.note(o.set(a, sort, low, high)));
        } else if (kind < 12) {
            act(r, x, o, seed, i, new int[] {Math.floorMod(what, 8), a, b, to});
        } else if (kind == 12) {
            due(seed, i, "clear(" + a + ")", x.clear(a), o.note(o.clear(a)));
        } else if (kind < 15) {
            int sort = o.take(a) < 0 ? 3 : o.slots[a].sort;
            long v = drawn(r, sort);
            due(seed, i, "near(" + a + ", " + v + ")", x.near(a, v), o.near(a, v));
            due(seed, i, "state()", x.state(), o.state);
            due(seed, i, "has(" + a + ", " + v + ")", x.has(a, v), o.note(o.has(a, v)));
        } else if (kind == 15) {
            due(seed, i, "alike(" + a + ", " + b + ")", x.alike(a, b), o.note(o.alike(a, b)));
        } else if (kind < 18) {
            int k = small(r, 12);
            int second = drawnSecond(r, what, used);
            due(seed, i, "step(" + k + ", " + what + ", " + a + ", " + second + ", " + to + ")",
                    x.step(k, what, a, second, to), o.note(o.step(k, what, a, second, to)));
        } else {
            int k = small(r, 12);
            int n = small(r, 13);
            due(seed, i, "run(" + k + ", " + n + ")", x.run(k, n), o.run(k, n));
        }
        due(seed, i, "state()", x.state(), o.state);
    }

    private static void act(Random r, StretchDesk x, Oracle o, long seed, int i, int[] s) {
        int what = s[0];
        int a = s[1];
        int to = s[3];
        int b = what == 3 ? small(r, 5) : what == 7 ? small(r, 4) : s[2];
        int got;
        switch (what) {
            case 0: got = x.hull(a, b, to); break;
            case 1: got = x.meet(a, b, to); break;
            case 2: got = x.size(a, to); break;
            case 3: got = x.round(a, b, to); break;
            case 4: got = x.sign(a, to); break;
            case 5: got = x.lend(a, b, to); break;
            case 6: got = x.turn(a, to); break;
            default: got = x.as(a, b, to); break;
        }
        String told = "what " + what + " (" + a + ", " + b + ", " + to + ")";
        due(seed, i, told, got, o.note(o.act(what, a, b, to)));
        if (r.nextBoolean()) {
            due(seed, i, told + ": state()", x.state(), o.state);
        } else {
            due(seed, i, told + ": low", x.low(to), o.end(to, true));
            due(seed, i, told + ": high", x.high(to), o.end(to, false));
        }
    }

    private static void look(StretchDesk x, Oracle o, long seed, int i) {
        for (int slot = -1; slot <= 16; slot++) {
            due(seed, i, "sort(" + slot + ")", x.sort(slot),
                    o.note(o.take(slot) < 0 ? o.take(slot) : o.slots[slot].sort));
            due(seed, i, "low(" + slot + ")", x.low(slot), o.end(slot, true));
            due(seed, i, "high(" + slot + ")", x.high(slot), o.end(slot, false));
            due(seed, i, "state()", x.state(), o.state);
        }
        for (int what = -1; what <= 5; what++) {
            due(seed, i, "about(" + what + ")", x.about(what), o.about(what));
        }
    }

    public static void main(String[] args) {
        for (long seed = 0; seed < RUNS && wrong < 50; seed++) {
            Random r = new Random(seed);
            StretchDesk x = new StretchDesk();
            Oracle o = new Oracle();
            for (int i = 1; i <= DRAWN_CALLS; i++) {
                call(r, x, o, seed, i);
                if (i % (DRAWN_CALLS / 2) == 0) {
                    look(x, o, seed, i);
                }
            }
        }
        System.out.println(wrong == 0 ? "all answers are as due" : wrong + " answers are not as due");
        if (wrong != 0) {
            System.exit(1);
        }
    }
}
