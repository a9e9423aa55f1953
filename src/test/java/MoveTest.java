import java.math.BigInteger;

/** Promise 7: move. */
public final class MoveTest {
    private static final Check CHECK = new Check("MoveTest");

    public static void main(String[] args) {
        long[] values = {0, 1, 2, 9, 10, 0xFFFFFFFFL, 0x100000000L, Long.MAX_VALUE, -1};
        for (int number = 0; number < 2; number++) {
            for (long above : values) {
                for (long by : values) {
                    for (int signs = 0; signs < 8; signs++) {
                        moves(number, above, by, signs);
                    }
                }
            }
            full(number);
            longBorrow(number);
        }
        signOfZero();
        bad();
        CHECK.end();
    }

    private static BigInteger unsigned(long v) {
        return new BigInteger(Long.toUnsignedString(v));
    }

    private static void moves(int number, long above, long by, int signs) {
        boolean below = (signs & 1) != 0;
        boolean otherBelow = (signs & 2) != 0;
        boolean down = (signs & 4) != 0;
        ExactFractions x = new ExactFractions();
        Numbers.put(x, number, above, 3, below, 7);
        Numbers.put(x, 1 - number, by, 5, otherBelow, -7);
        String other = other(x, 1 - number);
        BigInteger start = below ? unsigned(above).negate() : unsigned(above);
        BigInteger out = down ? start.subtract(unsigned(by)) : start.add(unsigned(by));
        String call = start + " move(" + number + ", " + down + ") by " + unsigned(by);
        CHECK.due(call, x.move(number, down), out.abs().bitLength());
        CHECK.same("above after " + call, Numbers.read(x, number, 0), out.abs());
        CHECK.due("under after " + call, x.word(number, 1, 0), 3);
        CHECK.same("the other number after " + call, other(x, 1 - number), other);
        // With above 3 the number is 3 / 3 * 2 ^ 7: its sign and E can be seen even if 0 came out.
        boolean belowThen = out.signum() == 0 ? below : out.signum() < 0;
        x.set(number, 0, 3);
        CHECK.due("sign after " + call, x.round(number, true),
                Double.doubleToLongBits(belowThen ? -128.0 : 128.0));
    }

    private static String other(ExactFractions x, int number) {
        return Numbers.read(x, number, 0) + " / " + Numbers.read(x, number, 1) + " = "
                + x.round(number, false) + " .. " + x.round(number, true);
    }

    /** 4800 bits are taken, 4801 are not, on either side of 0. */
    private static void full(int number) {
        for (int side = 0; side < 2; side++) {
            boolean below = side == 1;
            ExactFractions x = new ExactFractions();
            Numbers.put(x, number, 0, Numbers.ones(4800).subtract(BigInteger.ONE));
            x.scale(number, below, 0);
            x.set(1 - number, 0, 1);
            x.scale(1 - number, !below, 0);
            CHECK.due("move to 2 ^ 4800 - 1", x.move(number, below), 4800);
            CHECK.same("above", Numbers.read(x, number, 0), Numbers.ones(4800));
            String before = Numbers.state(x);
            CHECK.due("move to 2 ^ 4800", x.move(number, below), ExactFractions.FULL);
            CHECK.same("the state after FULL", Numbers.state(x), before);
            Numbers.put(x, 1 - number, 0, Numbers.ones(4800));
            before = Numbers.state(x);
            CHECK.due("move to 2 ^ 4801 - 2", x.move(number, below), ExactFractions.FULL);
            CHECK.same("the state after FULL", Numbers.state(x), before);
            CHECK.due("move back to 0", x.move(number, !below), 0);
            CHECK.due("move from 0", x.move(number, !below), 4800);
            CHECK.same("above", Numbers.read(x, number, 0), Numbers.ones(4800));
            x.set(number, 1, 1);
            x.scale(1 - number, true, 0);
            CHECK.due("compare() of signs", x.compare() * (number == 0 ? 1 : -1), below ? 1 : 0);
        }
    }

    private static void longBorrow(int number) {
        ExactFractions x = new ExactFractions();
        Numbers.put(x, number, 0, Numbers.power(4799));
        x.set(1 - number, 0, 1);
        CHECK.due("2 ^ 4799 - 1", x.move(number, true), 4799);
        CHECK.same("above", Numbers.read(x, number, 0), Numbers.ones(4799));
        CHECK.due("1 - (2 ^ 4799 - 1)", x.move(1 - number, true), 4799);
        CHECK.same("above", Numbers.read(x, 1 - number, 0), Numbers.ones(4799).subtract(BigInteger.ONE));
        CHECK.due("2 ^ 4799 - 1 - (2 ^ 4799 - 2)", x.move(number, true), 1);
        CHECK.due("word 0", x.word(number, 0, 0), 1);
    }

    private static void signOfZero() {
        ExactFractions x = new ExactFractions();
        x.scale(0, true, 0);
        CHECK.due("move of -0 by 0", x.move(0, false), 0);
        x.set(1, 0, 4);
        x.set(0, 0, 4);
        CHECK.due("-4 + 4", x.move(0, false), 0);
        CHECK.due("round of -0", x.round(0, false), 0);
        x.set(0, 0, 1);
        CHECK.due("0 kept the sign below", x.round(0, false), Double.doubleToLongBits(-1.0));
        x.begin(0);
        x.set(0, 0, 4);
        CHECK.due("4 - 4", x.move(0, true), 0);
        x.set(0, 0, 1);
        CHECK.due("0 kept no sign", x.round(0, false), Double.doubleToLongBits(1.0));
    }

    private static void bad() {
        ExactFractions x = Numbers.sample();
        String before = Numbers.state(x);
        for (int no : Numbers.NO_SUCH) {
            CHECK.due("move(" + no + ", false)", x.move(no, false), ExactFractions.BAD);
            CHECK.due("move(" + no + ", true)", x.move(no, true), ExactFractions.BAD);
        }
        CHECK.same("the state after BAD", Numbers.state(x), before);
    }
}
