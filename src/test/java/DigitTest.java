import java.math.BigInteger;

/** Promise 3: digit. */
public final class DigitTest {
    private static final Check CHECK = new Check("DigitTest");

    public static void main(String[] args) {
        for (int number = 0; number < 2; number++) {
            for (int part = 0; part < 2; part++) {
                ordinary(number, part);
                full(number, part);
            }
        }
        bad();
        CHECK.end();
    }

    private static void ordinary(int number, int part) {
        ExactFractions x = new ExactFractions();
        BigInteger value = BigInteger.valueOf(part);
        int[][] digits = {{10, 7}, {1, 0}, {1, 1000000}, {1000000, 0}, {1000000, 1000000}, {2, 1}, {999999, 3}};
        for (int round = 0; round < 30; round++) {
            for (int[] d : digits) {
                value = value.multiply(BigInteger.valueOf(d[0])).add(BigInteger.valueOf(d[1]));
                String call = "digit(" + number + ", " + part + ", " + d[0] + ", " + d[1] + ")";
                CHECK.due(call, x.digit(number, part, d[0], d[1]), value.bitLength());
                CHECK.same("the part after " + call, Numbers.read(x, number, part), value);
            }
        }
        CHECK.due("the other part", x.bits(number, 1 - part), 1 - part);
        CHECK.due("the other number's above", x.bits(1 - number, 0), 0);
        CHECK.due("the other number's under", x.bits(1 - number, 1), 1);
        zeroStaysZero();
    }

    private static void zeroStaysZero() {
        ExactFractions x = new ExactFractions();
        CHECK.due("digit(0, 0, 1000000, 0) of 0", x.digit(0, 0, 1000000, 0), 0);
        CHECK.due("digit(0, 0, 1, 0) of 0", x.digit(0, 0, 1, 0), 0);
        CHECK.due("digit(0, 1, 1, 0) of 1", x.digit(0, 1, 1, 0), 1);
    }

    /** 4800 bits are taken, 4801 are not, and then nothing is changed. */
    private static void full(int number, int part) {
        ExactFractions x = new ExactFractions();
        Numbers.put(x, number, part, Numbers.ones(4799));
        CHECK.due("4799 bits", x.bits(number, part), 4799);
        CHECK.due("digit by 2 and 1 of 4799 bits", x.digit(number, part, 2, 1), 4800);
        CHECK.same("2 ^ 4800 - 1", Numbers.read(x, number, part), Numbers.ones(4800));
        x.scale(number, true, 5);
        String before = Numbers.state(x);
        CHECK.due("digit by 1 and 0 when full", x.digit(number, part, 1, 0), 4800);
        CHECK.due("digit by 1 and 1", x.digit(number, part, 1, 1), ExactFractions.FULL);
        CHECK.due("digit by 2 and 0", x.digit(number, part, 2, 0), ExactFractions.FULL);
        CHECK.due("digit by and more 1000000", x.digit(number, part, 1000000, 1000000), ExactFractions.FULL);
        CHECK.same("the state after FULL", Numbers.state(x), before);
        Numbers.put(x, number, part, Numbers.power(4799));
        before = Numbers.state(x);
        CHECK.due("digit by 2 of 2 ^ 4799", x.digit(number, part, 2, 0), ExactFractions.FULL);
        CHECK.same("the state after FULL", Numbers.state(x), before);
        CHECK.due("digit by 1 and 1000000", x.digit(number, part, 1, 1000000), 4800);
        // BAD is told before FULL: a wrong call is wrong in every state.
        CHECK.due("digit by 2 and -1 when full", x.digit(number, part, 2, -1), ExactFractions.BAD);
        CHECK.due("digit by 1000001 when full", x.digit(number, part, 1000001, 0), ExactFractions.BAD);
    }

    private static void bad() {
        ExactFractions x = Numbers.sample();
        String before = Numbers.state(x);
        for (int no : Numbers.NO_SUCH) {
            for (int ok = 0; ok < 2; ok++) {
                CHECK.due("digit(" + no + ", " + ok + ", 2, 1)", x.digit(no, ok, 2, 1), ExactFractions.BAD);
                CHECK.due("digit(" + ok + ", " + no + ", 2, 1)", x.digit(ok, no, 2, 1), ExactFractions.BAD);
            }
        }
        int[] badBy = {0, -1, 1000001, Integer.MIN_VALUE, Integer.MAX_VALUE};
        int[] badMore = {-1, 1000001, Integer.MIN_VALUE, Integer.MAX_VALUE};
        for (int by : badBy) {
            CHECK.due("digit by " + by, x.digit(0, 0, by, 1), ExactFractions.BAD);
            CHECK.due("digit under by " + by, x.digit(1, 1, by, 1), ExactFractions.BAD);
        }
        for (int more : badMore) {
            CHECK.due("digit and more " + more, x.digit(0, 0, 1, more), ExactFractions.BAD);
            CHECK.due("digit under and more " + more, x.digit(1, 1, 1, more), ExactFractions.BAD);
        }
        CHECK.same("the state after BAD", Numbers.state(x), before);
    }
}
