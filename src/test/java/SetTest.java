import java.math.BigInteger;

/** Promise 4: set. */
public final class SetTest {
    private static final Check CHECK = new Check("SetTest");

    public static void main(String[] args) {
        long[] values = {1, 2, 3, 0xFFFFFFFFL, 0x100000000L, 0x100000001L, Long.MAX_VALUE, Long.MIN_VALUE, -1,
            0xFFFFFFFF00000000L, 10};
        for (int number = 0; number < 2; number++) {
            for (int part = 0; part < 2; part++) {
                for (long v : values) {
                    replaces(number, part, v);
                }
            }
        }
        zero();
        signStays();
        bad();
        CHECK.end();
    }

    /** A value takes the place of a longer one, of which nothing is left. */
    private static void replaces(int number, int part, long v) {
        ExactFractions x = new ExactFractions();
        Numbers.put(x, number, part, Numbers.ones(2000));
        BigInteger want = new BigInteger(Long.toUnsignedString(v));
        String call = "set(" + number + ", " + part + ", " + v + ")";
        CHECK.due(call, x.set(number, part, v), want.bitLength());
        CHECK.due("bits after " + call, x.bits(number, part), want.bitLength());
        CHECK.same("the part after " + call, Numbers.read(x, number, part), want);
        CHECK.due("the other part", x.bits(number, 1 - part), 1 - part);
        x.digit(number, part, 1000000, 5);
        CHECK.same("a digit after " + call, Numbers.read(x, number, part),
                want.multiply(BigInteger.valueOf(1000000)).add(BigInteger.valueOf(5)));
    }

    private static void zero() {
        ExactFractions x = Numbers.sample();
        String before = Numbers.state(x);
        CHECK.due("set(0, 1, 0)", x.set(0, 1, 0), ExactFractions.ZERO);
        CHECK.due("set(1, 1, 0)", x.set(1, 1, 0), ExactFractions.ZERO);
        CHECK.same("the state after ZERO", Numbers.state(x), before);
        CHECK.due("set(0, 0, 0)", x.set(0, 0, 0), 0);
        CHECK.due("set(1, 0, 0)", x.set(1, 0, 0), 0);
        CHECK.due("bits(0, 0)", x.bits(0, 0), 0);
        CHECK.due("compare() of two zeros", x.compare(), 0);
    }

    /** It is v that is taken without a sign; the number keeps its own, and its E. */
    private static void signStays() {
        ExactFractions x = new ExactFractions();
        x.scale(0, true, 1);
        x.set(0, 0, 3);
        x.set(0, 1, 2);
        CHECK.due("-3 / 2 * 2", x.round(0, false), Double.doubleToLongBits(-3.0));
        x.set(0, 0, -1);
        x.set(0, 1, -1);
        CHECK.due("-(2 ^ 64 - 1) / (2 ^ 64 - 1) * 2", x.round(0, true), Double.doubleToLongBits(-2.0));
    }

    private static void bad() {
        ExactFractions x = Numbers.sample();
        String before = Numbers.state(x);
        for (int no : Numbers.NO_SUCH) {
            for (int ok = 0; ok < 2; ok++) {
                for (long v : new long[] {0, 1, -1}) {
                    CHECK.due("set(" + no + ", " + ok + ", " + v + ")", x.set(no, ok, v), ExactFractions.BAD);
                    CHECK.due("set(" + ok + ", " + no + ", " + v + ")", x.set(ok, no, v), ExactFractions.BAD);
                }
            }
        }
        CHECK.same("the state after BAD", Numbers.state(x), before);
    }
}
