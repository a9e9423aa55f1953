import java.math.BigInteger;
import java.util.Random;

/** Promise 11, and FLOATS and ROUNDED of the terms: round. */
public final class RoundTest {
    private static final Check CHECK = new Check("RoundTest");
    private static final long MOST = Double.doubleToLongBits(Double.MAX_VALUE);
    private static final long INFINITY = Double.doubleToLongBits(Double.POSITIVE_INFINITY);
    private static final long SIGN = Long.MIN_VALUE;

    public static void main(String[] args) {
        noSuchNumber();
        zerosHaveNoSign();
        tooSmallBelowZero();
        thirds();
        floatsWithoutExponent();
        everyExponent();
        exactFloats();
        roundedDownAndUp();
        top();
        infinities();
        bottom();
        normalEdge();
        tinyRemainders();
        longestParts();
        longDivisors();
        changesNothing();
        CHECK.end();
    }

    /** Number 0 as it is and with its sign turned round: both sides of both. */
    private static void sides(String what, Fractions x, int e, long down, long up) {
        x.scale(0, false, e);
        CHECK.due(what + " down", x.round(0, false), down);
        CHECK.due(what + " up", x.round(0, true), up);
        x.scale(0, true, e);
        CHECK.due("-" + what + " down", x.round(0, false), up == 0 ? 0 : up | SIGN);
        CHECK.due("-" + what + " up", x.round(0, true), down == 0 ? 0 : down | SIGN);
    }

    private static Counted of(BigInteger above, BigInteger under) {
        Counted x = new Counted();
        Numbers.put(x, 0, 0, above);
        Numbers.put(x, 0, 1, under);
        return x;
    }

    /** "the NaN 9221120237041090560 for no such number", and nothing changes. */
    private static void noSuchNumber() {
        for (int no : Numbers.NO_SUCH) {
            State.changesNothing(CHECK, "round(" + no + ", false)", x -> x.round(no, false), 9221120237041090560L);
            State.changesNothing(CHECK, "round(" + no + ", true)", x -> x.round(no, true), 9221120237041090560L);
        }
    }

    /** "Zeros that are answered have no sign": of a 0, whatever its sign, under and E are. */
    private static void zerosHaveNoSign() {
        for (int e : new int[] {-12000, -1074, -1, 0, 1, 1024, 12000}) {
            sides("0 * 2 ^ " + e, of(BigInteger.ZERO, Numbers.ones(70)), e, 0, 0);
        }
        for (int number = 0; number < 2; number++) {
            Counted x = new Counted();
            x.scale(number, true, 12000);
            CHECK.due("-0 down", x.round(number, false), 0);
            CHECK.due("-0 up", x.round(number, true), 0);
        }
    }

    /** "Zeros that are answered have no sign": of what is below 0 and above all floats below 0. */
    private static void tooSmallBelowZero() {
        for (int number = 0; number < 2; number++) {
            for (int e : new int[] {-1075, -1076, -2000, -12000}) {
                Counted x = new Counted();
                Numbers.put(x, number, 1, 1, true, e);
                CHECK.due("-2 ^ " + e + " up", x.round(number, true), 0);
                CHECK.due("-2 ^ " + e + " down", x.round(number, false), 1 | SIGN);
                x.scale(number, false, e);
                CHECK.due("2 ^ " + e + " down", x.round(number, false), 0);
                CHECK.due("2 ^ " + e + " up", x.round(number, true), 1);
            }
        }
    }

    private static void thirds() {
        Counted x = new Counted();
        Numbers.put(x, 1, 1, 3, false, 0);
        CHECK.due("1 / 3 down", x.round(1, false), 4599676419421066581L);
        CHECK.due("1 / 3 up", x.round(1, true), 4599676419421066582L);
        Numbers.put(x, 1, 1, 3, true, 0);
        CHECK.due("-1 / 3 down", x.round(1, false), 4599676419421066582L | SIGN);
        CHECK.due("-1 / 3 up", x.round(1, true), 4599676419421066581L | SIGN);
        CHECK.due("number 0 is still 0", x.round(0, true), 0);
    }

    /** "with E = 0 the value F / 2 ^ 1074", F from 1 to 2 ^ 52 - 1, in both numbers. */
    private static void floatsWithoutExponent() {
        long[] fractions = {1, 2, 3, 0xFFFFFFFFL, 0x100000000L, 1L << 51, (1L << 51) - 1, (1L << 52) - 2,
            (1L << 52) - 1};
        for (long f : fractions) {
            sides(f + " / 2 ^ 1074", of(BigInteger.valueOf(f), BigInteger.ONE), -1074, f, f);
            Counted x = new Counted();
            Numbers.put(x, 1, f, 1, true, -1074);
            CHECK.due("-" + f + " / 2 ^ 1074 in number 1", x.round(1, false), f | SIGN);
        }
    }

    /** "with E from 1 to 2046 (1 + F / 2 ^ 52) * 2 ^ (E - 1023)": each E with the least and the greatest F. */
    private static void everyExponent() {
        for (int e = 1; e <= 2046; e++) {
            long least = (long) e << 52;
            long greatest = least | (1L << 52) - 1;
            sides("2 ^ " + (e - 1023), of(BigInteger.ONE, BigInteger.ONE), e - 1023, least, least);
            sides("the greatest with E " + e, of(Numbers.ones(53), BigInteger.ONE), e - 1075, greatest, greatest);
        }
    }

    /** A float is rounded to itself; a little more or less goes to its neighbours. */
    private static void exactFloats() {
        double[] floats = {1, 2, 0.5, 1.5, Math.PI, 1e300, 1e-300, 0x1.fffffffffffffp0, 0x1.0000000000001p0,
            Double.MIN_NORMAL, 0x1.fffffffffffffp-1022, Double.MIN_VALUE, 3 * Double.MIN_VALUE,
            Math.nextDown(Double.MIN_NORMAL), Math.nextUp(Double.MIN_NORMAL), 0x0.8p-1022, Double.MAX_VALUE,
            Math.nextDown(Double.MAX_VALUE), 0x1p1023, 0x1p53, 0x1p52, 12345.678};
        for (double d : floats) {
            long bits = Double.doubleToLongBits(d);
            long e = bits >>> 52;
            long factor = (bits & (1L << 52) - 1) + (e == 0 ? 0 : 1L << 52);
            int power = (int) Math.max(1, e) - 1075;
            for (int more = 0; more < 200; more += 67) {
                BigInteger above = BigInteger.valueOf(factor).shiftLeft(more);
                BigInteger under = BigInteger.valueOf(7);
                BigInteger seven = above.multiply(under);
                sides(d + "", of(seven, under), power - more, bits, bits);
                if (more > 0) {
                    sides("above " + d, of(seven.add(BigInteger.ONE), under), power - more, bits, bits + 1);
                    sides("below " + d, of(seven.subtract(BigInteger.ONE), under), power - more, bits - 1, bits);
                }
            }
        }
    }

    /** "the greatest float not above it (the least one not below it)", on both sides of 0. */
    private static void roundedDownAndUp() {
        long one = Double.doubleToLongBits(1.0);
        BigInteger under = Numbers.power(53);
        BigInteger middle = under.add(BigInteger.ONE);
        BigInteger less = middle.shiftLeft(9).subtract(BigInteger.ONE);
        BigInteger more = middle.shiftLeft(9).add(BigInteger.ONE);
        sides("1", of(under, under), 0, one, one);
        sides("halfway to the next above 1", of(middle, under), 0, one, one + 1);
        sides("less than halfway", of(less, under.shiftLeft(9)), 0, one, one + 1);
        sides("more than halfway", of(more, under.shiftLeft(9)), 0, one, one + 1);
        sides("the next above 1", of(under.add(BigInteger.TWO), under), 0, one + 1, one + 1);
        sides("halfway below 1", of(Numbers.ones(54), Numbers.power(54)), 0, one - 1, one);
        // One more than all ones goes over into E.
        sides("just below 2", of(Numbers.ones(54), under), 0, Double.doubleToLongBits(2.0) - 1,
                Double.doubleToLongBits(2.0));
    }

    /** The greatest floats, and what lies above them. */
    private static void top() {
        BigInteger most = Numbers.ones(53);
        sides("the greatest float", of(most, BigInteger.ONE), 971, MOST, MOST);
        sides("just above it", of(most.shiftLeft(4000).add(BigInteger.ONE), Numbers.power(4000)), 971, MOST, INFINITY);
        sides("half a step above it", of(Numbers.ones(54), BigInteger.ONE), 970, MOST, INFINITY);
        sides("2 ^ 1024", of(BigInteger.ONE, BigInteger.ONE), 1024, MOST, INFINITY);
        sides("just below 2 ^ 1024", of(Numbers.ones(4800), Numbers.power(4799)), 1023, MOST, INFINITY);
        sides("2 ^ 1025 / 3", of(BigInteger.ONE, BigInteger.valueOf(3)), 1025,
                0x7FE5555555555555L, 0x7FE5555555555556L);
        sides("2 ^ 1026 / 3", of(BigInteger.ONE, BigInteger.valueOf(3)), 1026, MOST, INFINITY);
        sides("2 ^ 12000", of(BigInteger.ONE, BigInteger.ONE), 12000, MOST, INFINITY);
        sides("2 ^ 16799", of(Numbers.power(4799), BigInteger.ONE), 12000, MOST, INFINITY);
    }

    /** "infinity among these", "with E = 2047 and F = 0": of either sign, in both numbers. */
    private static void infinities() {
        for (int number = 0; number < 2; number++) {
            for (int e : new int[] {1024, 1025, 2047, 2048, 12000}) {
                Counted x = new Counted();
                Numbers.put(x, number, 1, 1, false, e);
                CHECK.due("2 ^ " + e + " up", x.round(number, true), 2047L << 52);
                CHECK.due("2 ^ " + e + " down", x.round(number, false), (2047L << 52) - 1);
                x.scale(number, true, e);
                CHECK.due("-2 ^ " + e + " down", x.round(number, false), 2047L << 52 | SIGN);
                CHECK.due("-2 ^ " + e + " up", x.round(number, true), (2047L << 52) - 1 | SIGN);
            }
        }
    }

    /** The least floats, and what lies below them. */
    private static void bottom() {
        BigInteger one = BigInteger.ONE;
        sides("2 ^ -1074", of(one, one), -1074, 1, 1);
        sides("2 ^ -1075", of(one, one), -1075, 0, 1);
        sides("2 ^ -1076", of(one, one), -1076, 0, 1);
        sides("3 * 2 ^ -1075", of(BigInteger.valueOf(3), one), -1075, 1, 2);
        sides("2 ^ -1074 / 3", of(one, BigInteger.valueOf(3)), -1074, 0, 1);
        sides("2 ^ -1074 * 4 / 3", of(BigInteger.valueOf(4), BigInteger.valueOf(3)), -1074, 1, 2);
        sides("just above 2 ^ -1074", of(Numbers.power(4000).add(one), Numbers.power(4000)), -1074, 1, 2);
        sides("just below 2 ^ -1074", of(Numbers.power(4000), Numbers.power(4000).add(one)), -1074, 0, 1);
        sides("just below 2 ^ -1073", of(Numbers.ones(4000), Numbers.power(3999)), -1074, 1, 2);
        sides("2 ^ -12000", of(one, one), -12000, 0, 1);
        sides("2 ^ -16799", of(one, Numbers.power(4799)), -12000, 0, 1);
        sides("-12000 and a long above", of(Numbers.ones(4800), one), -12000, 0, 1);
    }

    /** Where floats with E = 0 meet those with E = 1. */
    private static void normalEdge() {
        long least = 1L << 52;
        BigInteger one = BigInteger.ONE;
        sides("2 ^ -1022", of(one, one), -1022, least, least);
        sides("just below 2 ^ -1022", of(Numbers.ones(4000), Numbers.power(4000)), -1022, least - 1, least);
        sides("just above 2 ^ -1022", of(Numbers.power(4000).add(one), Numbers.power(4000)), -1022, least, least + 1);
        sides("the last below 2 ^ -1022", of(Numbers.ones(52), one), -1074, least - 1, least - 1);
        sides("half a step below 2 ^ -1022", of(Numbers.ones(53), one), -1075, least - 1, least);
        sides("just below 2 ^ -1021", of(Numbers.ones(4000), Numbers.power(4000)), -1021, 2 * least - 1, 2 * least);
        sides("2 ^ -1021", of(one, one), -1021, 2 * least, 2 * least);
    }

    /** Rounded just once: a rest far beyond the 53 bits still counts, and no rest does not. */
    private static void tinyRemainders() {
        long one = Double.doubleToLongBits(1.0);
        BigInteger far = Numbers.power(4799);
        sides("1 and 2 ^ -4799", of(far.add(BigInteger.ONE), far), 0, one, one + 1);
        sides("1 less 2 ^ -4799", of(far.subtract(BigInteger.ONE), far), 0, one - 1, one);
        sides("1 over 1 and 2 ^ -4799", of(far, far.add(BigInteger.ONE)), 0, one - 1, one);
        sides("ones over ones", of(Numbers.ones(4800), Numbers.ones(4800)), 0, one, one);
        sides("4800 ones", of(Numbers.ones(4800), BigInteger.ONE), -4799,
                Double.doubleToLongBits(Math.nextDown(2.0)), Double.doubleToLongBits(2.0));
        sides("1 over 4800 ones", of(BigInteger.ONE, Numbers.ones(4800)), 4800, one, one + 1);
    }

    /** Above and under of 4800 bits, with E at its bounds and where the two meet. */
    private static void longestParts() {
        long one = Double.doubleToLongBits(1.0);
        for (int number = 0; number < 2; number++) {
            Counted x = new Counted();
            State.LONGEST.on(x);
            x.scale(number, false, 0);
            // Number 0 is (a + 5) / (a + 3), number 1 is (a + 2) / a.
            CHECK.due("just above 1 down", x.round(number, false), one);
            CHECK.due("just above 1 up", x.round(number, true), one + 1);
            x.turn(number);
            CHECK.due("just below 1 down", x.round(number, false), one - 1);
            CHECK.due("just below 1 up", x.round(number, true), one);
            x.scale(number, true, 12000);
            CHECK.due("-2 ^ 12000 up", x.round(number, true), MOST | SIGN);
            x.scale(number, true, -12000);
            CHECK.due("-2 ^ -12000 down", x.round(number, false), 1 | SIGN);
        }
    }

    /** A float times a long under, over that under: just the float; then one more and one less. */
    private static void longDivisors() {
        Random random = new Random(11);
        for (int i = 0; i < 100; i++) {
            // Every fourth float has E = 0.
            long bits = i % 4 == 0 ? random.nextLong() >>> 12 : random.nextLong() >>> 1;
            bits = Math.max(2, Math.min(bits, MOST - 1));
            long e = bits >>> 52;
            long factor = (bits & (1L << 52) - 1) + (e == 0 ? 0 : 1L << 52);
            int power = (int) Math.max(1, e) - 1075;
            BigInteger under = new BigInteger(100 + random.nextInt(4600), random).setBit(70);
            BigInteger above = under.multiply(BigInteger.valueOf(factor));
            String what = Double.longBitsToDouble(bits) + ", try " + i;
            sides(what, of(above, under), power, bits, bits);
            sides("above " + what, of(above.add(BigInteger.ONE), under), power, bits, bits + 1);
            sides("below " + what, of(above.subtract(BigInteger.ONE), under), power, bits - 1, bits);
        }
    }

    /** It only tells: nothing in the document has it change anything. */
    private static void changesNothing() {
        for (int number = 0; number < 2; number++) {
            int n = number;
            State.keeps(CHECK, "round(" + n + ", false)", x -> x.round(n, false));
            State.keeps(CHECK, "round(" + n + ", true)", x -> x.round(n, true));
        }
    }
}
