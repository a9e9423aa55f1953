import java.math.BigInteger;
import java.util.Random;

/** Promise 10: compare. */
public final class CompareTest {
    private static final Check CHECK = new Check("CompareTest");

    // The order of two equal sizes once nothing, or one of the four parts in turn, is one more.
    private static final int[] SIZES = {0, 1, -1, -1, 1};

    public static void main(String[] args) {
        smallOnes();
        zeros();
        exponents();
        boundsOfExponents();
        longestParts();
        longestRandomParts();
        bitsApart();
        longNeighbours();
        crossFactors();
        changesNothing();
        CHECK.end();
    }

    private static void due(String what, Fractions x, int want) {
        CHECK.due("compare() of " + what, x.compare(), want);
    }

    /** Every pair of small fractions, against the order of their cross products. */
    private static void smallOnes() {
        for (int a = -5; a <= 5; a++) {
            for (int b = 1; b <= 5; b++) {
                for (int c = -5; c <= 5; c++) {
                    for (int d = 1; d <= 5; d++) {
                        Counted x = new Counted();
                        Numbers.put(x, 0, Math.abs(a), b, a < 0, 0);
                        Numbers.put(x, 1, Math.abs(c), d, c < 0, 0);
                        due(a + "/" + b + " and " + c + "/" + d, x, Integer.compare(a * d, c * b));
                    }
                }
            }
        }
    }

    /** A 0 is 0 whatever its sign, under and E are. */
    private static void zeros() {
        for (int signs = 0; signs < 4; signs++) {
            Counted x = new Counted();
            Numbers.put(x, 0, 0, 9, (signs & 1) != 0, 12000);
            Numbers.put(x, 1, 0, 2, (signs & 2) != 0, -12000);
            due("two zeros", x, 0);
            x.set(1, 0, 1);
            due("0 and a number of either sign", x, (signs & 2) != 0 ? 1 : -1);
            x.set(1, 0, 0);
            x.set(0, 0, 1);
            due("a number of either sign and 0", x, (signs & 1) != 0 ? -1 : 1);
        }
    }

    /** The same value with its 2s in E, above or under; and what is off by a little. */
    private static void exponents() {
        for (int e = 0; e <= 63; e++) {
            Counted x = new Counted();
            Numbers.put(x, 0, 1L << e, 1, false, -e);
            Numbers.put(x, 1, 1, 1L << (63 - e), false, 63 - e);
            due("1 and 1 at " + e, x, 0);
            x.scale(1, false, 64 - e);
            due("1 and 2 at " + e, x, -1);
            x.scale(0, false, 2 - e);
            due("4 and 2 at " + e, x, 1);
            x.scale(0, true, 2 - e);
            x.scale(1, true, 64 - e);
            due("-4 and -2 at " + e, x, -1);
        }
    }

    private static void boundsOfExponents() {
        Counted x = new Counted();
        Numbers.put(x, 0, 1, 1, false, 12000);
        Numbers.put(x, 1, -1, 1, false, -12000);
        due("2 ^ 12000 and a tiny one", x, 1);
        x.scale(1, true, 12000);
        due("2 ^ 12000 and -(2 ^ 64 - 1) * 2 ^ 12000", x, 1);
        x.scale(0, true, 12000);
        due("the same below 0", x, 1);
        x.scale(1, true, -12000);
        due("-2 ^ 12000 and a tiny one below 0", x, -1);
        // The greatest and the least that there are, 2 ^ 33600 apart.
        Counted far = new Counted();
        Numbers.put(far, 0, 0, Numbers.ones(4800));
        far.move(1, false);
        far.turn(1);
        far.scale(0, false, 12000);
        far.scale(1, false, -12000);
        due("the greatest and the least", far, 1);
        far.scale(0, true, 12000);
        far.scale(1, true, -12000);
        due("the same below 0", far, -1);
        far.turn(0);
        far.turn(1);
        due("both turned", far, 1);
    }

    /** All four parts have 4800 bits, so that the products are as long as they can be. */
    private static void longestParts() {
        int[][] more = {{0, 0, 0, 0, 0}, {7, 7, 4, 4, 0}, {1, 0, 0, 0, 1}, {0, 1, 0, 0, -1}, {0, 0, 1, 0, -1},
            {0, 0, 0, 1, 1}, {5, 3, 2, 0, -1}, {2, 0, 5, 3, 1}, {1, 2, 0, 1, 1}, {6, 5, 7, 6, 1}};
        for (int[] m : more) {
            for (int sign = 0; sign < 2; sign++) {
                Counted x = new Counted();
                Numbers.putAll(x, Numbers.power(4800).subtract(BigInteger.valueOf(8)));
                x.digit(0, 0, 1, m[0]);
                x.digit(0, 1, 1, m[1]);
                x.digit(1, 0, 1, m[2]);
                x.digit(1, 1, 1, m[3]);
                x.scale(0, sign == 1, 0);
                x.scale(1, sign == 1, 0);
                String what = "2 ^ 4800 - 8 and " + m[0] + ", " + m[1] + ", " + m[2] + ", " + m[3];
                due(what, x, sign == 1 ? -m[4] : m[4]);
                x.scale(0, sign == 1, 12000);
                due(what + ", E 12000 and 0", x, sign == 1 ? -1 : 1);
                x.scale(1, sign == 1, 12000);
                due(what + ", E 12000", x, sign == 1 ? -m[4] : m[4]);
            }
        }
    }

    /** Four parts that differ little from one long number: neither is seen to be greater from its upper bits. */
    private static void longestRandomParts() {
        Random random = new Random(12);
        for (int i = 0; i < 200; i++) {
            long seed = random.nextLong();
            State.Recipe recipe = x -> parts(x, new Random(seed));
            Counted x = new Counted();
            recipe.on(x);
            Model model = new Model();
            recipe.on(model);
            due("four long parts, try " + i, x, model.compare());
        }
    }

    private static void parts(Fractions x, Random random) {
        Numbers.putAll(x, new BigInteger(4740, random).setBit(4739 - random.nextInt(2)));
        for (int part = 0; part < 2; part++) {
            for (int times = random.nextInt(4); times > 0; times--) {
                int by = 1 + (random.nextInt(1000000) >> random.nextInt(20));
                x.digit(0, part, by, random.nextInt(3));
                x.digit(1, part, by, random.nextInt(3));
            }
        }
    }

    private static void bitsApart() {
        BigInteger[] unders = {Numbers.power(4799), Numbers.ones(4799), Numbers.power(4799).add(BigInteger.ONE)};
        int[] wants = {0, -1, 1};
        for (int i = 0; i < unders.length; i++) {
            Counted x = new Counted();
            Numbers.put(x, 0, 0, Numbers.power(4799));
            x.scale(0, false, -4799);
            Numbers.put(x, 1, 1, unders[i]);
            x.set(1, 0, 1);
            x.scale(1, false, 4799);
            due("1 and 1 over " + i + " with their bits apart", x, wants[i]);
        }
    }

    /** A factor that both parts have makes no difference, one that one part has does. */
    private static void longNeighbours() {
        BigInteger factor = new BigInteger("987654321".repeat(100));
        for (int shift = 0; shift < 70; shift++) {
            for (int more = -1; more <= 1; more++) {
                Counted x = new Counted();
                Numbers.put(x, 0, 0,
                        factor.multiply(BigInteger.valueOf(355)).shiftLeft(shift).add(BigInteger.valueOf(more)));
                Numbers.put(x, 0, 1, factor.multiply(BigInteger.valueOf(113)));
                Numbers.put(x, 1, 355, 113, false, shift);
                due("355 / 113 and " + more + " at " + shift, x, more);
            }
        }
    }

    /** One value with two unlike factors: equal only if every carry of both long products is right. */
    private static void crossFactors() {
        Random random = new Random(10);
        for (int i = 0; i < 100; i++) {
            BigInteger above = odd(1 + random.nextInt(1000), random);
            BigInteger under = odd(1 + random.nextInt(1000), random);
            BigInteger factor = odd(1 + random.nextInt(1400), random);
            BigInteger otherFactor = odd(1 + random.nextInt(900), random);
            int shift = random.nextInt(100);
            int e = random.nextInt(23000) - 11500;
            boolean below = random.nextBoolean();
            for (int more = 0; more < SIZES.length; more++) {
                Counted x = new Counted();
                Numbers.put(x, 0, 0, above.multiply(factor).shiftLeft(shift));
                Numbers.put(x, 0, 1, under.multiply(factor));
                x.scale(0, below, e);
                Numbers.put(x, 1, 0, above.multiply(otherFactor));
                Numbers.put(x, 1, 1, under.multiply(otherFactor));
                x.scale(1, below, e + shift);
                if (more > 0) {
                    x.digit((more - 1) / 2, (more - 1) % 2, 1, 1);
                }
                due("equals and one more in part " + more + ", try " + i, x, below ? -SIZES[more] : SIZES[more]);
            }
        }
    }

    private static BigInteger odd(int bits, Random random) {
        return new BigInteger(bits, random).setBit(0);
    }

    /** It only tells: nothing in the document has it change anything. */
    private static void changesNothing() {
        State.keeps(CHECK, "compare()", x -> x.compare());
        State.keeps(CHECK, "compare() twice", x -> x.compare() + x.compare());
    }
}
