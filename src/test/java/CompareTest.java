import java.math.BigInteger;
import java.util.Random;

/** Promise 10: compare. */
public final class CompareTest {
    private static final Check CHECK = new Check("CompareTest");

    public static void main(String[] args) {
        smallOnes();
        zeros();
        exponents();
        longOnes();
        longNeighbours();
        crossFactors();
        CHECK.end();
    }

    private static void due(String what, ExactFractions x, int want) {
        CHECK.due("compare() of " + what, x.compare(), want);
    }

    /** Every pair of small fractions, against the order of their cross products. */
    private static void smallOnes() {
        ExactFractions x = new ExactFractions();
        for (int a = -5; a <= 5; a++) {
            for (int b = 1; b <= 5; b++) {
                for (int c = -5; c <= 5; c++) {
                    for (int d = 1; d <= 5; d++) {
                        Numbers.put(x, 0, Math.abs(a), b, a < 0, 0);
                        Numbers.put(x, 1, Math.abs(c), d, c < 0, 0);
                        due(a + "/" + b + " and " + c + "/" + d, x, Integer.compare(a * d, c * b));
                    }
                }
            }
        }
    }

    private static void zeros() {
        ExactFractions x = new ExactFractions();
        for (int signs = 0; signs < 4; signs++) {
            Numbers.put(x, 0, 0, 9, (signs & 1) != 0, 12000);
            Numbers.put(x, 1, 0, 2, (signs & 2) != 0, -12000);
            due("two zeros", x, 0);
            x.set(1, 0, 1);
            due("0 and a number of either sign", x, (signs & 2) != 0 ? 1 : -1);
            x.set(1, 0, 0);
            x.set(0, 0, 1);
            due("a number of either sign and 0", x, (signs & 1) != 0 ? -1 : 1);
        }
    }

    /** The same value with its 2s in E, above or under; and what is off by a little. */
    private static void exponents() {
        ExactFractions x = new ExactFractions();
        for (int e = 0; e <= 63; e++) {
            Numbers.put(x, 0, 1L << e, 1, false, -e);
            Numbers.put(x, 1, 1, 1L << (63 - e), false, 63 - e);
            due("1 and 1 at " + e, x, 0);
            x.scale(1, false, 64 - e);
            due("1 and 2 at " + e, x, -1);
            x.scale(0, false, 2 - e);
            due("4 and 2 at " + e, x, 1);
            x.scale(0, true, 2 - e);
            x.scale(1, true, 64 - e);
            due("-4 and -2 at " + e, x, -1);
        }
        Numbers.put(x, 0, 1, 1, false, 12000);
        Numbers.put(x, 1, -1, 1, false, -12000);
        due("2 ^ 12000 and a tiny one", x, 1);
        x.scale(1, true, 12000);
        due("2 ^ 12000 and -(2 ^ 64 - 1) * 2 ^ 12000", x, 1);
        x.scale(0, true, 12000);
        due("the same below 0", x, 1);
        x.scale(1, true, -12000);
        due("-2 ^ 12000 and a tiny one below 0", x, -1);
    }

    /** All four parts have 4800 bits, so that the products are as long as they can be. */
    private static void longOnes() {
        ExactFractions x = new ExactFractions();
        for (int number = 0; number < 2; number++) {
            for (int part = 0; part < 2; part++) {
                Numbers.put(x, number, part, Numbers.ones(4800));
            }
        }
        due("two ones of 4800 bits", x, 0);
        x.scale(0, true, 0);
        x.scale(1, true, 0);
        due("two ones below 0", x, 0);
        Numbers.put(x, 0, 0, Numbers.ones(4800).subtract(BigInteger.ONE));
        due("just above -1, and -1", x, 1);
        // Number 1 is now less by one in above and under, so nearer still.
        Numbers.put(x, 1, 0, Numbers.ones(4800).subtract(BigInteger.TWO));
        Numbers.put(x, 1, 1, Numbers.ones(4800).subtract(BigInteger.ONE));
        due("neighbours below 0", x, -1);
        x.scale(0, false, 0);
        x.scale(1, false, 0);
        due("neighbours", x, 1);
        Numbers.put(x, 0, 0, Numbers.power(4799));
        Numbers.put(x, 0, 1, BigInteger.ONE);
        Numbers.put(x, 1, 0, BigInteger.ONE);
        Numbers.put(x, 1, 1, Numbers.power(4799));
        x.scale(0, false, -4799);
        x.scale(1, false, 4799);
        due("1 and 1 with their bits apart", x, 0);
        Numbers.put(x, 1, 1, Numbers.ones(4799));
        due("1 and just above", x, -1);
        Numbers.put(x, 1, 1, Numbers.power(4799).add(BigInteger.ONE));
        due("1 and just below", x, 1);
    }

    /** A factor that both parts have makes no difference, one that one part has does. */
    private static void longNeighbours() {
        ExactFractions x = new ExactFractions();
        BigInteger factor = new BigInteger("987654321".repeat(100));
        for (int shift = 0; shift < 70; shift++) {
            BigInteger above = factor.multiply(BigInteger.valueOf(355)).shiftLeft(shift);
            BigInteger under = factor.multiply(BigInteger.valueOf(113));
            Numbers.put(x, 0, 0, above);
            Numbers.put(x, 0, 1, under);
            x.scale(0, false, 0);
            Numbers.put(x, 1, 355, 113, false, shift);
            due("355 / 113 at " + shift, x, 0);
            Numbers.put(x, 0, 0, above.add(BigInteger.ONE));
            due("just above 355 / 113 at " + shift, x, 1);
            Numbers.put(x, 0, 0, above.subtract(BigInteger.ONE));
            due("just below 355 / 113 at " + shift, x, -1);
        }
    }

    /** One value with two unlike factors: equal only if every carry of both long products is right. */
    private static void crossFactors() {
        Random random = new Random(10);
        for (int i = 0; i < 100; i++) {
            BigInteger above = odd(1 + random.nextInt(2400), random);
            BigInteger under = odd(1 + random.nextInt(2400), random);
            BigInteger factor = odd(1 + random.nextInt(2300), random);
            BigInteger otherFactor = odd(1 + random.nextInt(2300), random);
            int shift = random.nextInt(100);
            int e = random.nextInt(23000) - 11500;
            boolean below = random.nextBoolean();
            ExactFractions x = new ExactFractions();
            Numbers.put(x, 0, 0, above.multiply(factor).shiftLeft(shift));
            Numbers.put(x, 0, 1, under.multiply(factor));
            x.scale(0, below, e);
            Numbers.put(x, 1, 0, above.multiply(otherFactor));
            Numbers.put(x, 1, 1, under.multiply(otherFactor));
            x.scale(1, below, e + shift);
            due("equals, try " + i, x, 0);
            x.digit(0, 0, 1, 1);
            due("a bit more in number 0, try " + i, x, below ? -1 : 1);
            Numbers.put(x, 0, 0, above.multiply(factor).shiftLeft(shift));
            x.digit(0, 1, 1, 1);
            due("a bit less in number 0, try " + i, x, below ? 1 : -1);
            Numbers.put(x, 0, 1, under.multiply(factor));
            x.digit(1, 0, 1, 1);
            due("a bit more in number 1, try " + i, x, below ? 1 : -1);
        }
    }

    private static BigInteger odd(int bits, Random random) {
        return new BigInteger(bits, random).setBit(0);
    }
}
