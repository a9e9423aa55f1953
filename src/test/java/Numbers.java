import java.math.BigInteger;

/** Puts long whole numbers into an object and reads them, by calls of the face alone. */
final class Numbers {
    static final int[] NO_SUCH = {-1, 2, 3, -2, 32, Integer.MAX_VALUE, Integer.MIN_VALUE};

    private static final int DIGIT_BITS = 19;

    private Numbers() {
    }

    static BigInteger power(int bits) {
        return BigInteger.ONE.shiftLeft(bits);
    }

    /** The greatest number of so many bits. */
    static BigInteger ones(int bits) {
        return power(bits).subtract(BigInteger.ONE);
    }

    static BigInteger unsigned(long v) {
        return new BigInteger(Long.toUnsignedString(v));
    }

    /** A part becomes a value, by set for its upper bits and digit for all others: 251 calls at most. */
    static void put(Fractions x, int number, int part, BigInteger value) {
        int digits = (Math.max(0, value.bitLength() - 64) + DIGIT_BITS - 1) / DIGIT_BITS;
        x.set(number, part, value.shiftRight(digits * DIGIT_BITS).longValue());
        for (int i = digits - 1; i >= 0; i--) {
            int digit = value.shiftRight(i * DIGIT_BITS).intValue() & (1 << DIGIT_BITS) - 1;
            x.digit(number, part, 1 << DIGIT_BITS, digit);
        }
    }

    static void put(Fractions x, int number, long above, long under, boolean below, int e) {
        x.set(number, 0, above);
        x.set(number, 1, under);
        x.scale(number, below, e);
    }

    /**
     * All four parts of a new object become one value. The digits of four long
     * parts would take more calls than an object has; moves and turns copy one.
     */
    static void putAll(Fractions x, BigInteger value) {
        put(x, 0, 0, value);
        x.move(1, false);
        x.turn(1);
        x.set(1, 0, 0);
        x.move(1, false);
        x.turn(0);
        x.set(0, 0, 0);
        x.move(0, false);
    }

    /** What the 150 words of a part tell. */
    static BigInteger read(Fractions x, int number, int part) {
        BigInteger value = BigInteger.ZERO;
        for (int i = 149; i >= 0; i--) {
            value = value.shiftLeft(32).add(BigInteger.valueOf(x.word(number, part, i) & 0xFFFFFFFFL));
        }
        return value;
    }
}
