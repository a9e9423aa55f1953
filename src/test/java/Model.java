import java.math.BigInteger;

/** The document again, over BigInteger and by other ways than the class: what is due. */
final class Model implements Fractions {
    static final long INFINITY = 2047L << 52;
    static final long NOT_A_NUMBER = 9221120237041090560L;

    final BigInteger[][] parts = new BigInteger[2][2];
    final boolean[] below = new boolean[2];
    final int[] exponents = new int[2];

    Model() {
        begin(0);
        begin(1);
    }

    private static boolean is01(int n) {
        return n == 0 || n == 1;
    }

    public int begin(int number) {
        if (!is01(number)) {
            return -1;
        }
        parts[number][0] = BigInteger.ZERO;
        parts[number][1] = BigInteger.ONE;
        below[number] = false;
        exponents[number] = 0;
        return 0;
    }

    private int keep(int number, int part, BigInteger value) {
        if (value.bitLength() > 4800) {
            return -2;
        }
        parts[number][part] = value;
        return value.bitLength();
    }

    public int digit(int number, int part, int by, int more) {
        if (!is01(number) || !is01(part) || by < 1 || by > 1000000 || more < 0 || more > 1000000) {
            return -1;
        }
        return keep(number, part,
                parts[number][part].multiply(BigInteger.valueOf(by)).add(BigInteger.valueOf(more)));
    }

    public int set(int number, int part, long v) {
        if (!is01(number) || !is01(part)) {
            return -1;
        }
        if (part == 1 && v == 0) {
            return -3;
        }
        return keep(number, part, new BigInteger(Long.toUnsignedString(v)));
    }

    public int scale(int number, boolean isBelow, int e) {
        if (!is01(number) || e < -12000 || e > 12000) {
            return -1;
        }
        below[number] = isBelow;
        exponents[number] = e;
        return 0;
    }

    public int turn(int number) {
        if (!is01(number)) {
            return -1;
        }
        if (parts[number][0].signum() == 0) {
            return -3;
        }
        BigInteger above = parts[number][0];
        parts[number][0] = parts[number][1];
        parts[number][1] = above;
        exponents[number] = -exponents[number];
        return 0;
    }

    private BigInteger signedAbove(int number) {
        return below[number] ? parts[number][0].negate() : parts[number][0];
    }

    public int move(int number, boolean down) {
        if (!is01(number)) {
            return -1;
        }
        BigInteger by = parts[1 - number][0];
        BigInteger out = down ? signedAbove(number).subtract(by) : signedAbove(number).add(by);
        int answer = keep(number, 0, out.abs());
        if (answer >= 0 && out.signum() != 0) {
            below[number] = out.signum() < 0;
        }
        return answer;
    }

    public int bits(int number, int part) {
        return is01(number) && is01(part) ? parts[number][part].bitLength() : -1;
    }

    public int word(int number, int part, int i) {
        if (!is01(number) || !is01(part) || i < 0 || i >= 150) {
            return 0;
        }
        return parts[number][part].shiftRight(32 * i).intValue();
    }

    public int compare() {
        int least = Math.min(exponents[0], exponents[1]);
        BigInteger one = signedAbove(0).multiply(parts[1][1]).shiftLeft(exponents[0] - least);
        BigInteger other = signedAbove(1).multiply(parts[0][1]).shiftLeft(exponents[1] - least);
        return one.compareTo(other);
    }

    /** Looks for the float among all of them, by halves, as the document's words say. */
    public long round(int number, boolean up) {
        if (!is01(number)) {
            return NOT_A_NUMBER;
        }
        long least = 0;
        long beyond = INFINITY;
        while (beyond - least > 1) {
            long middle = least + (beyond - least) / 2;
            if (orderOfFloat(middle, number) <= 0) {
                least = middle;
            } else {
                beyond = middle;
            }
        }
        boolean outward = up != below[number] && orderOfFloat(least, number) != 0;
        long size = outward ? least + 1 : least;
        return below[number] && size != 0 ? size | Long.MIN_VALUE : size;
    }

    /** The order of a finite float from 0 on and a number without its sign. */
    private int orderOfFloat(long float64, int number) {
        long e = float64 >>> 52;
        long f = float64 & (1L << 52) - 1;
        long factor = e == 0 ? f : f + (1L << 52);
        int power = (int) Math.max(e, 1) - 1075;
        BigInteger one = BigInteger.valueOf(factor).multiply(parts[number][1]);
        int gap = power - exponents[number];
        return gap >= 0
                ? one.shiftLeft(gap).compareTo(parts[number][0])
                : one.compareTo(parts[number][0].shiftLeft(-gap));
    }
}
