/**
 * Two fractions of long whole numbers, made digit by digit, compared exactly,
 * and told as floats of 64 bits that are rounded once, to either side.
 */
public final class ExactFractions {
    public static final int BAD = -1, FULL = -2, ZERO = -3;

    private static final int MOST_BITS = 4800;
    private static final int MOST_EXPONENT = 12000;
    private static final int MOST_DIGIT = 1000000;

    // A product of two parts is the longest whole number that is ever held;
    // the one word more is for a carry or a shift that reaches past it.
    private static final int ROOM = 2 * MOST_BITS / 32 + 1;
    private static final long LOW_WORD = 0xFFFFFFFFL;

    private static final long NOT_A_NUMBER = 0x7FF8000000000000L;
    private static final long INFINITY = 0x7FF0000000000000L;
    private static final long SIGN = 0x8000000000000000L;
    private static final int FLOAT_BITS = 53;
    private static final int GREATEST_POWER = 1023;
    private static final int LEAST_NORMAL_POWER = -1022;
    private static final int LEAST_POWER = -1074;

    private final Fraction first;
    private final Fraction second;

    // Rows to work in, kept from call to call so that no call makes an object.
    private final Whole left;
    private final Whole right;

    public ExactFractions() {
        first = new Fraction();
        second = new Fraction();
        left = new Whole();
        right = new Whole();
    }

    public int begin(int number) {
        Fraction fraction = numberOf(number);
        if (fraction == null) {
            return BAD;
        }
        fraction.restart();
        return 0;
    }

    public int digit(int number, int part, int by, int more) {
        Whole whole = partOf(number, part);
        if (whole == null || by < 1 || by > MOST_DIGIT || more < 0 || more > MOST_DIGIT) {
            return BAD;
        }
        left.becomeMultiple(whole, by, more);
        return keepLeftIn(whole);
    }

    public int set(int number, int part, long v) {
        Whole whole = partOf(number, part);
        if (whole == null) {
            return BAD;
        }
        if (part == 1 && v == 0) {
            return ZERO;
        }
        whole.become(v);
        return whole.length();
    }

    public int scale(int number, boolean below, int e) {
        Fraction fraction = numberOf(number);
        if (fraction == null || e < -MOST_EXPONENT || e > MOST_EXPONENT) {
            return BAD;
        }
        fraction.below = below;
        fraction.exponent = e;
        return 0;
    }

    public int turn(int number) {
        Fraction fraction = numberOf(number);
        if (fraction == null) {
            return BAD;
        }
        if (fraction.above.isZero()) {
            return ZERO;
        }
        fraction.flip();
        return 0;
    }

    public int move(int number, boolean down) {
        Fraction fraction = numberOf(number);
        if (fraction == null) {
            return BAD;
        }
        Whole by = number == 0 ? second.above : first.above;
        if (fraction.below == down) {
            left.becomeSum(fraction.above, by);
        } else if (fraction.above.order(by) >= 0) {
            left.becomeDifference(fraction.above, by);
        } else {
            // The move goes across 0; a difference is never too long to be kept.
            left.becomeDifference(by, fraction.above);
            fraction.below = down;
        }
        return keepLeftIn(fraction.above);
    }

    public int bits(int number, int part) {
        Whole whole = partOf(number, part);
        return whole == null ? BAD : whole.length();
    }

    public int word(int number, int part, int i) {
        Whole whole = partOf(number, part);
        return whole == null ? 0 : whole.wordAt(i);
    }

    public int compare() {
        int sign = first.sign();
        int otherSign = second.sign();
        if (sign != otherSign) {
            return sign < otherSign ? -1 : 1;
        }
        return sign == 0 ? 0 : sign * orderOfSizes();
    }

    public long round(int number, boolean up) {
        Fraction fraction = numberOf(number);
        if (fraction == null) {
            return NOT_A_NUMBER;
        }
        if (fraction.above.isZero()) {
            return 0;
        }
        long size = roundedSize(fraction, up != fraction.below);
        return fraction.below && size != 0 ? size | SIGN : size;
    }

    private Fraction numberOf(int number) {
        if (number == 0) {
            return first;
        }
        return number == 1 ? second : null;
    }

    private Whole partOf(int number, int part) {
        Fraction fraction = numberOf(number);
        if (fraction == null) {
            return null;
        }
        if (part == 0) {
            return fraction.above;
        }
        return part == 1 ? fraction.under : null;
    }

    // Results are made in left first, so that what is refused changes nothing.
    private int keepLeftIn(Whole part) {
        if (left.length() > MOST_BITS) {
            return FULL;
        }
        part.copy(left);
        return part.length();
    }

    /** The order of the two numbers without their signs; neither is 0. */
    private int orderOfSizes() {
        int lead = first.rank() - second.rank();
        if (lead > 1 || lead < -1) {
            return lead < 0 ? -1 : 1;
        }
        left.becomeProduct(first.above, second.under);
        right.becomeProduct(second.above, first.under);
        int gap = left.length() - right.length();
        lead = gap + first.exponent - second.exponent;
        if (lead != 0) {
            return lead < 0 ? -1 : 1;
        }
        alignTops(gap);
        return left.order(right);
    }

    /** The shorter of left and right is shifted up until both have as many bits. */
    private void alignTops(int gap) {
        if (gap < 0) {
            left.shiftUp(-gap);
        } else {
            right.shiftUp(gap);
        }
    }

    /** The bits of a number that is not 0, rounded without its sign, away from 0 or toward it. */
    private long roundedSize(Fraction fraction, boolean away) {
        int power = layOut(fraction);
        if (power > GREATEST_POWER) {
            return away ? INFINITY : INFINITY - 1;
        }
        long size = quotient(Math.min(FLOAT_BITS, power - LEAST_POWER + 1));
        if (power > LEAST_NORMAL_POWER) {
            // The quotient's own top bit adds the 1 that E still lacks.
            size += (long) (power - LEAST_NORMAL_POWER) << (FLOAT_BITS - 1);
        }
        // One more goes to the next float, out of the finite ones to infinity too.
        return away && !left.isZero() ? size + 1 : size;
    }

    /**
     * Puts above and under in left and right, shifted so that left / right is
     * from 1 on and less than 2: which power of 2 makes it the number again.
     */
    private int layOut(Fraction fraction) {
        left.copy(fraction.above);
        right.copy(fraction.under);
        alignTops(left.length() - right.length());
        if (left.order(right) >= 0) {
            return fraction.rank();
        }
        left.shiftUp(1);
        return fraction.rank() - 1;
    }

    /** So many binary digits of left / right, which is less than 2; the rest stays in left. */
    private long quotient(int digits) {
        long found = 0;
        for (int i = 0; i < digits; i++) {
            found <<= 1;
            if (left.order(right) >= 0) {
                left.becomeDifference(left, right);
                found |= 1;
            }
            left.shiftUp(1);
        }
        return found;
    }

    /** above / under * 2 ^ exponent, below 0 or not. */
    private static final class Fraction {
        Whole above;
        Whole under;
        boolean below;
        int exponent;

        Fraction() {
            above = new Whole();
            under = new Whole();
            restart();
        }

        void restart() {
            above.become(0);
            under.become(1);
            below = false;
            exponent = 0;
        }

        void flip() {
            Whole formerAbove = above;
            above = under;
            under = formerAbove;
            exponent = -exponent;
        }

        int sign() {
            if (above.isZero()) {
                return 0;
            }
            return below ? -1 : 1;
        }

        /** The size lies between 2 ^ (rank - 1) and 2 ^ (rank + 1), and is neither. */
        int rank() {
            return above.length() - under.length() + exponent;
        }
    }

    /** A whole number from 0 on, in words of 32 bits, the lowest one first. */
    private static final class Whole {
        private final int[] words;

        // The word below this place is not 0, and all from it on are.
        private int used;

        Whole() {
            words = new int[ROOM];
            used = 0;
        }

        int wordAt(int i) {
            return i >= 0 && i < words.length ? words[i] : 0;
        }

        private long valueAt(int i) {
            return wordAt(i) & LOW_WORD;
        }

        private void put(int i, long low) {
            if (i >= 0 && i < words.length) {
                words[i] = (int) low;
            }
        }

        /** All words below top are written: clears what a longer number left from there on. */
        private void settle(int top) {
            for (int i = top; i < used; i++) {
                put(i, 0);
            }
            used = Math.min(top, words.length);
            while (used > 0 && wordAt(used - 1) == 0) {
                used--;
            }
        }

        boolean isZero() {
            return used == 0;
        }

        /** How many bits it has. */
        int length() {
            if (isZero()) {
                return 0;
            }
            int top = wordAt(used - 1);
            int topBits = 0;
            while (topBits < 32 && top >>> topBits != 0) {
                topBits++;
            }
            return 32 * (used - 1) + topBits;
        }

        int order(Whole other) {
            for (int i = Math.max(used, other.used) - 1; i >= 0; i--) {
                long difference = valueAt(i) - other.valueAt(i);
                if (difference != 0) {
                    return difference < 0 ? -1 : 1;
                }
            }
            return 0;
        }

        void become(long v) {
            put(0, v);
            put(1, v >>> 32);
            settle(2);
        }

        void copy(Whole other) {
            for (int i = 0; i < other.used; i++) {
                put(i, other.wordAt(i));
            }
            settle(other.used);
        }

        void becomeMultiple(Whole other, int by, int more) {
            long carry = more;
            for (int i = 0; i < other.used; i++) {
                carry += other.valueAt(i) * by;
                put(i, carry);
                carry >>>= 32;
            }
            put(other.used, carry);
            settle(other.used + 1);
        }

        void becomeSum(Whole one, Whole other) {
            int most = Math.max(one.used, other.used);
            long carry = 0;
            for (int i = 0; i < most; i++) {
                carry += one.valueAt(i) + other.valueAt(i);
                put(i, carry);
                carry >>>= 32;
            }
            put(most, carry);
            settle(most + 1);
        }

        /** The lesser is not above the greater, which may be this number itself. */
        void becomeDifference(Whole greater, Whole lesser) {
            long carry = 0;
            for (int i = 0; i < greater.used; i++) {
                carry += greater.valueAt(i) - lesser.valueAt(i);
                put(i, carry);
                carry >>= 32;
            }
            settle(greater.used);
        }

        /** Neither of the two is this number itself. */
        void becomeProduct(Whole one, Whole other) {
            settle(0);
            for (int i = 0; i < one.used; i++) {
                addMultiple(other, one.valueAt(i), i);
            }
            settle(one.used + other.used);
        }

        // A product of two words and two words more, all at their greatest, just fill 64 bits.
        private void addMultiple(Whole other, long by, int place) {
            long carry = 0;
            for (int i = 0; i < other.used; i++) {
                carry += other.valueAt(i) * by + valueAt(place + i);
                put(place + i, carry);
                carry >>>= 32;
            }
            put(place + other.used, carry);
        }

        void shiftUp(int by) {
            int places = by >> 5;
            int rest = by & 31;
            int top = used + places + 1;
            // From the top on down, so that no word is written before it is read.
            for (int i = top - 1; i >= 0; i--) {
                long pair = valueAt(i - places) << 32 | valueAt(i - places - 1);
                put(i, pair >>> (32 - rest));
            }
            settle(top);
        }
    }
}
