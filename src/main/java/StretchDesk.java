import java.util.Arrays;

/**
 * A desk of ranges: pieces of the line of whole or broken numbers between two ends, open to infinity, too;
 * joined, cut by one another, turned over at zero, rounded to whole ends, lent signs, made of another sort;
 * one by one, or in chains of steps.
 */
public final class StretchDesk {
    public static final int NONE = -1;

    private static final int SLOTS = 16;
    private static final int STEPS = 12;

    private static final int INT = 0;
    private static final int LONG = 1;
    private static final int FLOAT = 2;
    private static final int DOUBLE = 3;

    private static final int LONG_BITS = 64;
    private static final long LEAST_INT = -0x80000000L;
    private static final long GREATEST_INT = 0x7FFFFFFFL;
    private static final long LEAST_LONG = 0x8000000000000000L;
    private static final long GREATEST_LONG = 0x7FFFFFFFFFFFFFFFL;

    private static final int HULL = 0;
    private static final int MEET = 1;
    private static final int SIZE = 2;
    private static final int ROUND = 3;
    private static final int SIGN = 4;
    private static final int LEND = 5;
    private static final int TURN = 6;
    private static final int AS = 7;

    private static final int DOWN = 0;
    private static final int UP = 1;
    private static final int NEAREST = 2;
    private static final int OUTWARD = 3;
    private static final int INWARD = 4;

    private static final int NO_SLOT = -2;
    private static final int TAKEN_EMPTY = -3;
    private static final int WRONG_SORT = -4;
    private static final int WRONG_VALUE = -5;

    // A slot is EMPTY when its sort is NONE; its ends mean nothing then.
    private final int[] sorts = new int[SLOTS];
    private final long[] lows = new long[SLOTS];
    private final long[] highs = new long[SLOTS];

    // A step is not there when its what is NONE.
    private final int[] stepWhats = new int[STEPS];
    private final int[] stepFirsts = new int[STEPS];
    private final int[] stepSeconds = new int[STEPS];
    private final int[] stepTargets = new int[STEPS];

    private int latestRefusal;
    private int refusedCount;
    private int toldEndCount;
    private int doneStepCount;

    public StretchDesk() {
        Arrays.fill(sorts, NONE);
        Arrays.fill(stepWhats, NONE);
    }

    public int set(int slot, int sort, long low, long high) {
        long from = Numbers.told(sort, low);
        long upTo = Numbers.told(sort, high);
        int refusal = refusalOfRange(slot, sort, from, upTo);
        return noted(refusal < 0 ? refusal : put(slot, sort, from, upTo));
    }

    public int clear(int slot) {
        if (!isSlot(slot)) {
            return noted(NO_SLOT);
        }
        int answer = isEmpty(slot) ? 0 : 1;
        sorts[slot] = NONE;
        return noted(answer);
    }

    public int sort(int slot) {
        int refusal = refusalOfTaking(slot);
        return noted(refusal < 0 ? refusal : sorts[slot]);
    }

    public long low(int slot) {
        return endTold(slot, lows);
    }

    public long high(int slot) {
        return endTold(slot, highs);
    }

    public int hull(int a, int b, int to) {
        return noted(act(HULL, a, b, to));
    }

    public int meet(int a, int b, int to) {
        return noted(act(MEET, a, b, to));
    }

    public int size(int a, int to) {
        return noted(act(SIZE, a, 0, to));
    }

    public int round(int a, int how, int to) {
        return noted(act(ROUND, a, how, to));
    }

    public int sign(int a, int to) {
        return noted(act(SIGN, a, 0, to));
    }

    public int lend(int a, int b, int to) {
        return noted(act(LEND, a, b, to));
    }

    public int turn(int a, int to) {
        return noted(act(TURN, a, 0, to));
    }

    public int as(int a, int sort, int to) {
        return noted(act(AS, a, sort, to));
    }

    public long near(int a, long v) {
        int refusal = noted(refusalOfNumber(a, v));
        if (refusal < 0) {
            return 0;
        }
        int sort = sorts[a];
        long atLeastLow = Numbers.greater(sort, Numbers.told(sort, v), lows[a]);
        return Numbers.lesser(sort, atLeastLow, highs[a]);
    }

    public int has(int a, long v) {
        int refusal = noted(refusalOfNumber(a, v));
        if (refusal < 0) {
            return refusal;
        }
        int sort = sorts[a];
        long number = Numbers.told(sort, v);
        boolean isOutside = Numbers.isLess(sort, number, lows[a]) || Numbers.isLess(sort, highs[a], number);
        return isOutside ? 0 : 1;
    }

    public int alike(int a, int b) {
        if (!isSlot(a) || !isSlot(b)) {
            return noted(NO_SLOT);
        }
        if (isEmpty(a) || isEmpty(b)) {
            return noted(TAKEN_EMPTY);
        }
        boolean isSame = sorts[a] == sorts[b] && lows[a] == lows[b] && highs[a] == highs[b];
        return noted(isSame ? 1 : 0);
    }

    public int step(int k, int what, int a, int b, int to) {
        if (!areSlots(what, a, b, to)) {
            return noted(NO_SLOT);
        }
        if (!isStep(k) || what < HULL || what > AS) {
            return noted(WRONG_VALUE);
        }
        stepWhats[k] = what;
        stepFirsts[k] = a;
        stepSeconds[k] = b;
        stepTargets[k] = to;
        return noted(1);
    }

    public int run(int k, int n) {
        if (!isStep(k) || n < 0 || n > STEPS) {
            return noted(WRONG_VALUE);
        }
        int done = 0;
        int answer = 0;
        for (int i = k; i < STEPS && done < n && stepWhats[i] != NONE; i++) {
            answer = act(stepWhats[i], stepFirsts[i], stepSeconds[i], stepTargets[i]);
            if (answer < 0) {
                break;
            }
            done++;
        }
        // The refusal is the step's: it is noted once, while the run itself answers what it did.
        noted(answer);
        doneStepCount += done;
        return done;
    }

    public int state() {
        return latestRefusal;
    }

    public int about(int what) {
        switch (what) {
            case 0:
                return countPresent(sorts);
            case 1:
                return countPresent(stepWhats);
            case 2:
                return refusedCount;
            case 3:
                return toldEndCount;
            case 4:
                return doneStepCount;
            default:
                return NONE;
        }
    }

    /** Every call but state() and about() ends here, so that a refusal is kept and counted in one place. */
    private int noted(int answer) {
        latestRefusal = Math.min(answer, 0);
        if (answer < 0) {
            refusedCount++;
        }
        return answer;
    }

    private long endTold(int slot, long[] ends) {
        int refusal = noted(refusalOfTaking(slot));
        if (refusal < 0) {
            return 0;
        }
        toldEndCount++;
        return ends[slot];
    }

    private static int countPresent(int[] row) {
        int count = 0;
        for (int i = 0; i < row.length; i++) {
            if (row[i] != NONE) {
                count++;
            }
        }
        return count;
    }

    private static boolean isSlot(int slot) {
        return slot >= 0 && slot < SLOTS;
    }

    private static boolean isStep(int k) {
        return k >= 0 && k < STEPS;
    }

    private boolean isEmpty(int slot) {
        return sorts[slot] == NONE;
    }

    private static boolean takesTwo(int what) {
        return what == HULL || what == MEET || what == LEND;
    }

    private static boolean isForBrokenOnly(int what) {
        return what == ROUND || what == SIGN || what == LEND;
    }

    private static boolean areSlots(int what, int a, int b, int to) {
        return isSlot(a) && isSlot(to) && (!takesTwo(what) || isSlot(b));
    }

    private int refusalOfRange(int slot, int sort, long low, long high) {
        if (!isSlot(slot)) {
            return NO_SLOT;
        }
        if (!Numbers.isSort(sort) || !Numbers.isNumber(sort, low) || !Numbers.isNumber(sort, high)) {
            return WRONG_SORT;
        }
        return Numbers.isLess(sort, high, low) ? WRONG_VALUE : 0;
    }

    private int refusalOfTaking(int slot) {
        if (!isSlot(slot)) {
            return NO_SLOT;
        }
        return isEmpty(slot) ? TAKEN_EMPTY : 0;
    }

    private int refusalOfNumber(int slot, long v) {
        int refusal = refusalOfTaking(slot);
        if (refusal < 0) {
            return refusal;
        }
        int sort = sorts[slot];
        return Numbers.isNumber(sort, Numbers.told(sort, v)) ? 0 : WRONG_SORT;
    }

    private int refusalOfAct(int what, int a, int b, int to) {
        if (!areSlots(what, a, b, to)) {
            return NO_SLOT;
        }
        if (isEmpty(a) || (takesTwo(what) && isEmpty(b))) {
            return TAKEN_EMPTY;
        }
        if (isSortRefused(what, a, b)) {
            return WRONG_SORT;
        }
        return what == ROUND && (b < DOWN || b > INWARD) ? WRONG_VALUE : 0;
    }

    private boolean isSortRefused(int what, int a, int b) {
        if (takesTwo(what) && sorts[a] != sorts[b]) {
            return true;
        }
        if (isForBrokenOnly(what) && !Numbers.isBroken(sorts[a])) {
            return true;
        }
        return what == AS && !Numbers.isSort(b);
    }

    /** Calls and steps of a chain share this way, so that both are refused by the same rules. */
    private int act(int what, int a, int b, int to) {
        int refusal = refusalOfAct(what, a, b, to);
        if (refusal < 0) {
            return refusal;
        }
        int sort = sorts[a];
        long low = lows[a];
        long high = highs[a];
        switch (what) {
            case HULL:
                return putFitting(to, sort,
                        Numbers.lesser(sort, low, lows[b]), Numbers.greater(sort, high, highs[b]));
            case MEET:
                return putFitting(to, sort,
                        Numbers.greater(sort, low, lows[b]), Numbers.lesser(sort, high, highs[b]));
            case SIZE:
                return putSizes(to, sort, low, high);
            case ROUND:
                return putFitting(to, sort,
                        Broken.whole(sort, low, wayOfLow(b)), Broken.whole(sort, high, wayOfHigh(b)));
            case SIGN:
                return putOrdered(to, sort, Broken.unit(sort, low), Broken.unit(sort, high));
            case LEND:
                return putOrdered(to, sort,
                        Broken.signed(sort, low, lows[b] < 0), Broken.signed(sort, high, highs[b] < 0));
            case TURN:
                return putOrdered(to, sort, Numbers.opposite(sort, low), Numbers.opposite(sort, high));
            case AS:
                return putOrdered(to, b, Numbers.converted(sort, low, b), Numbers.converted(sort, high, b));
            default:
                return WRONG_VALUE;
        }
    }

    private static int wayOfLow(int how) {
        if (how == OUTWARD) {
            return DOWN;
        }
        return how == INWARD ? UP : how;
    }

    private static int wayOfHigh(int how) {
        if (how == OUTWARD) {
            return UP;
        }
        return how == INWARD ? DOWN : how;
    }

    private int putSizes(int to, int sort, long low, long high) {
        long ofLow = Numbers.distance(sort, low);
        long ofHigh = Numbers.distance(sort, high);
        if (Numbers.isBelowZero(sort, low) && Numbers.isAboveZero(high)) {
            return putOrdered(to, sort, 0, Numbers.greater(sort, ofLow, ofHigh));
        }
        return putOrdered(to, sort, ofLow, ofHigh);
    }

    private int putOrdered(int to, int sort, long one, long other) {
        return Numbers.isLess(sort, other, one) ? put(to, sort, other, one) : put(to, sort, one, other);
    }

    private int putFitting(int to, int sort, long low, long high) {
        if (Numbers.isLess(sort, high, low)) {
            sorts[to] = NONE;
            return 0;
        }
        return put(to, sort, low, high);
    }

    private int put(int to, int sort, long low, long high) {
        sorts[to] = sort;
        lows[to] = low;
        highs[to] = high;
        return 1;
    }

    /**
     * Numbers of all sorts, in the 64 bits in which they are told. As an INT and a FLOAT are told with their sign
     * carried up, the sign of every number is that of its 64 bits.
     */
    private static final class Numbers {
        static boolean isSort(int sort) {
            return sort >= INT && sort <= DOUBLE;
        }

        static boolean isBroken(int sort) {
            return sort == FLOAT || sort == DOUBLE;
        }

        static long told(int sort, long v) {
            return sort == INT || sort == FLOAT ? (long) (int) v : v;
        }

        static boolean isNumber(int sort, long v) {
            return !isBroken(sort) || Broken.unsigned(sort, v) <= Broken.infinity(sort);
        }

        static boolean isLess(int sort, long one, long other) {
            return rank(sort, one) < rank(sort, other);
        }

        static long lesser(int sort, long one, long other) {
            return isLess(sort, other, one) ? other : one;
        }

        static long greater(int sort, long one, long other) {
            return isLess(sort, one, other) ? other : one;
        }

        /** The bits of broken numbers below zero grow as the numbers fall, and so are turned over to be compared. */
        private static long rank(int sort, long v) {
            return isBroken(sort) && v < 0 ? v ^ Broken.unsignedMask(sort) : v;
        }

        static boolean isBelowZero(int sort, long v) {
            return v < 0 && (!isBroken(sort) || Broken.unsigned(sort, v) != 0);
        }

        static boolean isAboveZero(long v) {
            return v > 0;
        }

        static long distance(int sort, long v) {
            if (isBroken(sort)) {
                return Broken.unsigned(sort, v);
            }
            return v < 0 ? told(sort, -v) : v;
        }

        static long opposite(int sort, long v) {
            if (isBroken(sort)) {
                return Broken.signed(sort, v, v >= 0);
            }
            return told(sort, -v);
        }

        static long converted(int sort, long v, int newSort) {
            if (sort == newSort) {
                return v;
            }
            if (isBroken(sort)) {
                return isBroken(newSort) ? Broken.resized(sort, v, newSort) : Broken.cut(sort, v, newSort);
            }
            // -v of the least LONG wraps to itself, which is its size when read without a sign.
            return isBroken(newSort) ? Broken.nearest(newSort, v < 0, v < 0 ? -v : v, 0) : told(newSort, v);
        }
    }

    /**
     * FLOAT and DOUBLE numbers, by their bits alone: a sign, an exponent, and a fraction. What is not infinite is
     * amount * 2^power with a whole amount.
     */
    private static final class Broken {
        static int fractionBits(int sort) {
            return sort == FLOAT ? 23 : 52;
        }

        static int leastPower(int sort) {
            return sort == FLOAT ? -149 : -1074;
        }

        static long unsignedMask(int sort) {
            return sort == FLOAT ? GREATEST_INT : GREATEST_LONG;
        }

        static long infinity(int sort) {
            return sort == FLOAT ? 0x7F800000L : 0x7FF0000000000000L;
        }

        static long one(int sort) {
            return sort == FLOAT ? 0x3F800000L : 0x3FF0000000000000L;
        }

        static long half(int sort) {
            return sort == FLOAT ? 0x3F000000L : 0x3FE0000000000000L;
        }

        static long unsigned(int sort, long v) {
            return v & unsignedMask(sort);
        }

        static long signed(int sort, long v, boolean isNegative) {
            long mask = unsignedMask(sort);
            return isNegative ? v | ~mask : v & mask;
        }

        static long unit(int sort, long v) {
            return unsigned(sort, v) == 0 ? v : signed(sort, one(sort), v < 0);
        }

        static long amount(int sort, long v) {
            long bits = v & unsignedMask(sort);
            long fraction = bits & ((1L << fractionBits(sort)) - 1);
            return bits == fraction ? fraction : fraction | (1L << fractionBits(sort));
        }

        static int power(int sort, long v) {
            int exponent = (int) ((v & unsignedMask(sort)) >>> fractionBits(sort));
            return leastPower(sort) + Math.max(exponent - 1, 0);
        }

        /** way is DOWN, UP or NEAREST. */
        static long whole(int sort, long v, int way) {
            long bits = unsigned(sort, v);
            if (bits == 0 || power(sort, v) >= 0) {
                return v;
            }
            if (bits < one(sort)) {
                boolean isAway = way == NEAREST ? bits > half(sort) : isAwayFromZero(v, way);
                return signed(sort, isAway ? one(sort) : 0, v < 0);
            }
            long wholeOne = 1L << -power(sort, v);
            long rest = bits & (wholeOne - 1);
            if (rest == 0) {
                return v;
            }
            boolean isOdd = ((amount(sort, v) >>> -power(sort, v)) & 1) == 1;
            boolean isNearerAway = rest * 2 > wholeOne || (rest * 2 == wholeOne && isOdd);
            boolean isAway = way == NEAREST ? isNearerAway : isAwayFromZero(v, way);
            // A carry out of the fraction raises the exponent, which is just the next whole number.
            return signed(sort, bits - rest + (isAway ? wholeOne : 0), v < 0);
        }

        private static boolean isAwayFromZero(long v, int way) {
            return way == (v < 0 ? DOWN : UP);
        }

        static long resized(int sort, long v, int newSort) {
            if (unsigned(sort, v) == infinity(sort)) {
                return signed(newSort, infinity(newSort), v < 0);
            }
            return nearest(newSort, v < 0, amount(sort, v), power(sort, v));
        }

        /** The number of the sort that is nearest to amount * 2^power; amount is read without a sign. */
        static long nearest(int sort, boolean isNegative, long amount, int power) {
            if (amount == 0) {
                return signed(sort, 0, isNegative);
            }
            int width = LONG_BITS - Long.numberOfLeadingZeros(amount);
            int keptPower = Math.max(leastPower(sort), power + width - fractionBits(sort) - 1);
            long kept = scaled(amount, width, keptPower - power);
            // Added, not joined: the top bit of what is kept is the exponent's last 1, which the least ones lack.
            long bits = ((long) (keptPower - leastPower(sort)) << fractionBits(sort)) + kept;
            return signed(sort, Math.min(bits, infinity(sort)), isNegative);
        }

        /** amount / 2^drop, to the nearest, halves to even; width is how many bits amount has. */
        private static long scaled(long amount, int width, int drop) {
            if (drop <= 0) {
                return amount << -drop;
            }
            if (drop > width) {
                return 0;
            }
            long halves = amount >>> (drop - 1);
            long rest = amount & ((1L << (drop - 1)) - 1);
            long kept = halves >>> 1;
            boolean isUp = (halves & 1) == 1 && (rest != 0 || (kept & 1) == 1);
            return isUp ? kept + 1 : kept;
        }

        /** What is towards zero, as an INT or LONG; what is too far off comes to the end of that sort. */
        static long cut(int sort, long v, int newSort) {
            long whole = cutToLong(sort, v);
            return newSort == INT ? Math.max(LEAST_INT, Math.min(whole, GREATEST_INT)) : whole;
        }

        private static long cutToLong(int sort, long v) {
            int power = power(sort, v);
            // From here on up the amount has all its bits, so that it goes beyond 63 of them, as infinity does.
            if (power > LONG_BITS - 2 - fractionBits(sort)) {
                return v < 0 ? LEAST_LONG : GREATEST_LONG;
            }
            if (power <= -LONG_BITS) {
                return 0;
            }
            long amount = amount(sort, v);
            long size = power < 0 ? amount >>> -power : amount << power;
            return v < 0 ? -size : size;
        }
    }
}
