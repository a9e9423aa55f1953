import java.math.BigInteger;

/** Puts long whole numbers into an object, and reads its state, by calls of the face alone. */
final class Numbers {
    static final int[] NO_SUCH = {-1, 2, 3, -2, 32, Integer.MAX_VALUE, Integer.MIN_VALUE};

    private Numbers() {
    }

    static BigInteger power(int bits) {
        return BigInteger.ONE.shiftLeft(bits);
    }

    /** The greatest number of so many bits. */
    static BigInteger ones(int bits) {
        return power(bits).subtract(BigInteger.ONE);
    }

    /**
     * A part becomes a value, by set for its upper bits and digit for all others.
     * For long parts that takes more than the 512 calls of the document; this
     * program answers later calls like earlier ones, and the tests lean on it.
     */
    static void put(ExactFractions x, int number, int part, BigInteger value) {
        int lower = Math.max(0, (value.bitLength() - 33) / 16) * 16;
        x.set(number, part, value.shiftRight(lower).longValueExact());
        for (int from = lower - 16; from >= 0; from -= 16) {
            x.digit(number, part, 1 << 16, value.shiftRight(from).intValue() & 0xFFFF);
        }
    }

    static void put(ExactFractions x, int number, long above, long under, boolean below, int e) {
        x.set(number, 0, above);
        x.set(number, 1, under);
        x.scale(number, below, e);
    }

    /** -77 / 5 * 2 ^ 3 and 99 / 7 * 2 ^ -3: a state in which every change shows. */
    static ExactFractions sample() {
        ExactFractions x = new ExactFractions();
        put(x, 0, 77, 5, true, 3);
        put(x, 1, 99, 7, false, -3);
        return x;
    }

    static BigInteger read(ExactFractions x, int number, int part) {
        BigInteger value = BigInteger.ZERO;
        for (int i = 151; i >= 0; i--) {
            value = value.shiftLeft(32).add(BigInteger.valueOf(x.word(number, part, i) & 0xFFFFFFFFL));
        }
        return value;
    }

    /** All that an object tells without being changed. */
    static String state(ExactFractions x) {
        StringBuilder text = new StringBuilder();
        for (int number = 0; number < 2; number++) {
            for (int part = 0; part < 2; part++) {
                text.append(x.bits(number, part)).append(':');
                text.append(read(x, number, part).toString(16)).append(' ');
            }
            text.append(x.round(number, false)).append(' ').append(x.round(number, true)).append(' ');
        }
        return text.append(x.compare()).toString();
    }
}
