import java.math.BigInteger;

/** Promise 7: move. */
public final class MoveTest {
    private static final Check CHECK = new Check("MoveTest");

    public static void main(String[] args) {
        long[] values = {0, 1, 2, 9, 10, 0xFFFFFFFFL, 0x100000000L, Long.MAX_VALUE, -1};
        for (int number = 0; number < 2; number++) {
            for (long above : values) {
                for (long by : values) {
                    for (int signs = 0; signs < 8; signs++) {
                        moves(number, above, by, signs);
                    }
                }
            }
            leavesAllElse(number);
            otherSignDoesNotCount(number);
            crossesZero(number);
            zeroKeepsItsSign(number);
            fromZero(number);
            takes4800Bits(number);
            full(number);
            differenceIsNeverFull(number);
            longBorrow(number);
        }
        badNumber();
        CHECK.end();
    }

    private static void moves(int number, long above, long by, int signs) {
        boolean below = (signs & 1) != 0;
        boolean otherBelow = (signs & 2) != 0;
        boolean down = (signs & 4) != 0;
        Counted x = new Counted();
        Numbers.put(x, number, above, 3, below, 7);
        Numbers.put(x, 1 - number, by, 5, otherBelow, -7);
        BigInteger start = below ? Numbers.unsigned(above).negate() : Numbers.unsigned(above);
        BigInteger out = down ? start.subtract(Numbers.unsigned(by)) : start.add(Numbers.unsigned(by));
        String call = start + " move(" + number + ", " + down + ") by " + Numbers.unsigned(by);
        CHECK.due(call, x.move(number, down), out.abs().bitLength());
        CHECK.same("above after " + call, Numbers.read(x, number, 0), out.abs());
        CHECK.due("under after " + call, x.word(number, 1, 0), 3);
        // With above 3 the number is 3 / 3 * 2 ^ 7: its sign and E can be seen even if 0 came out.
        boolean belowThen = out.signum() == 0 ? below : out.signum() < 0;
        x.set(number, 0, 3);
        CHECK.due("sign after " + call, x.round(number, true),
                Double.doubleToLongBits(belowThen ? -128.0 : 128.0));
    }

    /** "under and E stay", and so does the other number. */
    private static void leavesAllElse(int number) {
        for (State.Recipe from : new State.Recipe[] {State.NEW, State.SMALL, State.ZEROS, State.LONGEST}) {
            for (int way = 0; way < 2; way++) {
                boolean down = way == 1;
                State.Recipe recipe = x -> {
                    from.on(x);
                    x.move(number, down);
                };
                CHECK.same("all after move(" + number + ", " + down + ")", State.of(recipe), State.due(recipe));
            }
        }
    }

    /** "the other one's above, which counts without a sign". */
    private static void otherSignDoesNotCount(int number) {
        for (int sign = 0; sign < 2; sign++) {
            Counted x = new Counted();
            x.set(number, 0, 10);
            Numbers.put(x, 1 - number, 4, 9, sign == 1, 12000);
            CHECK.due("10 down by 4", x.move(number, true), 3);
            CHECK.due("6", x.word(number, 0, 0), 6);
            CHECK.due("6 up by 4", x.move(number, false), 4);
            CHECK.due("10", x.word(number, 0, 0), 10);
        }
    }

    /** "its sign is then that of what comes out", on both ways across 0. */
    private static void crossesZero(int number) {
        Counted x = new Counted();
        x.set(number, 0, 3);
        x.set(1 - number, 0, 4);
        CHECK.due("3 down by 4", x.move(number, true), 1);
        CHECK.due("-1", x.round(number, true), Double.doubleToLongBits(-1.0));
        CHECK.due("-1 down by 4", x.move(number, true), 3);
        CHECK.due("-5", x.round(number, true), Double.doubleToLongBits(-5.0));
        CHECK.due("-5 up by 4", x.move(number, false), 1);
        CHECK.due("-1", x.round(number, true), Double.doubleToLongBits(-1.0));
        CHECK.due("-1 up by 4", x.move(number, false), 2);
        CHECK.due("3", x.round(number, true), Double.doubleToLongBits(3.0));
    }

    /** "(of 0 the one it had)". */
    private static void zeroKeepsItsSign(int number) {
        for (int sign = 0; sign < 2; sign++) {
            boolean below = sign == 1;
            long due = Double.doubleToLongBits(below ? -1.0 : 1.0);
            Counted x = new Counted();
            Numbers.put(x, number, 4, 1, below, 0);
            x.set(1 - number, 0, 4);
            CHECK.due("to 0", x.move(number, !below), 0);
            CHECK.due("its bits", x.bits(number, 0), 0);
            CHECK.due("round of 0", x.round(number, false), 0);
            x.set(1 - number, 0, 0);
            CHECK.due("0 down by 0", x.move(number, true), 0);
            CHECK.due("0 up by 0", x.move(number, false), 0);
            x.set(number, 0, 1);
            CHECK.due("the sign it had", x.round(number, false), due);
            CHECK.due("1 down by 0", x.move(number, true), 1);
            CHECK.due("1 up by 0", x.move(number, false), 1);
            CHECK.due("the sign it had", x.round(number, false), due);
        }
    }

    /** What comes out of 0 has the sign of the way, whatever sign the 0 had. */
    private static void fromZero(int number) {
        for (int signs = 0; signs < 4; signs++) {
            boolean below = (signs & 1) != 0;
            boolean down = (signs & 2) != 0;
            Counted x = new Counted();
            x.scale(number, below, 0);
            x.set(1 - number, 0, 2);
            CHECK.due("0 by 2", x.move(number, down), 2);
            CHECK.due("2 or -2", x.round(number, true), Double.doubleToLongBits(down ? -2.0 : 2.0));
        }
    }

    /** "at most 4800 bits": the greatest number of 4800 bits is taken, on either side of 0. */
    private static void takes4800Bits(int number) {
        for (int side = 0; side < 2; side++) {
            boolean below = side == 1;
            Counted x = new Counted();
            Numbers.put(x, number, 0, Numbers.ones(4800).subtract(BigInteger.ONE));
            x.scale(number, below, 0);
            x.set(1 - number, 0, 1);
            CHECK.due("move to 2 ^ 4800 - 1", x.move(number, below), 4800);
            CHECK.same("above", Numbers.read(x, number, 0), Numbers.ones(4800));
            x = new Counted();
            Numbers.put(x, 1 - number, 0, Numbers.ones(4800));
            CHECK.due("0 by 2 ^ 4800 - 1", x.move(number, below), 4800);
            CHECK.same("above", Numbers.read(x, number, 0), Numbers.ones(4800));
        }
    }

    /** "FULL": 4801 bits are refused, from 2 ^ 4800 on, on either side of 0, and nothing changes. */
    private static void full(int number) {
        for (int signs = 0; signs < 4; signs++) {
            boolean below = (signs & 1) != 0;
            boolean otherBelow = (signs & 2) != 0;
            State.Recipe byOne = x -> {
                Numbers.put(x, number, 0, Numbers.ones(4800));
                Numbers.put(x, 1 - number, 1, 7, otherBelow, -12000);
                x.scale(number, below, 12000);
            };
            refusesFull(number, below, byOne, "(2 ^ 4800 - 1) and 1");
            State.Recipe halves = x -> {
                Numbers.put(x, number, 0, Numbers.power(4799));
                x.move(1 - number, false);
                x.scale(number, below, -12000);
                x.scale(1 - number, otherBelow, 12000);
            };
            refusesFull(number, below, halves, "2 ^ 4799 twice");
            State.Recipe greatest = x -> {
                Numbers.putAll(x, Numbers.ones(4800));
                x.scale(number, below, 5);
                x.scale(1 - number, otherBelow, 6);
            };
            refusesFull(number, below, greatest, "2 ^ 4800 - 1 twice");
            State.Recipe oneByAll = x -> {
                Numbers.put(x, 1 - number, 0, Numbers.ones(4800));
                Numbers.put(x, number, 1, 3, below, 0);
                x.scale(1 - number, otherBelow, 2);
            };
            refusesFull(number, below, oneByAll, "1 and (2 ^ 4800 - 1)");
        }
    }

    private static void refusesFull(int number, boolean down, State.Recipe recipe, String state) {
        State.changesNothing(CHECK, state, recipe, "move(" + number + ", " + down + ")",
                x -> x.move(number, down), ExactFractions.FULL);
    }

    /** Toward 0 and across it no move is too long, even if both have 4800 bits. */
    private static void differenceIsNeverFull(int number) {
        for (int side = 0; side < 2; side++) {
            boolean below = side == 1;
            Counted x = new Counted();
            Numbers.putAll(x, Numbers.ones(4800));
            x.scale(number, below, 0);
            CHECK.due("move to 0", x.move(number, !below), 0);
            CHECK.due("move from 0", x.move(number, !below), 4800);
            CHECK.same("above", Numbers.read(x, number, 0), Numbers.ones(4800));
            CHECK.due("its sign", x.compare() * (number == 0 ? 1 : -1), below ? 0 : -1);
        }
    }

    private static void longBorrow(int number) {
        Counted x = new Counted();
        Numbers.put(x, number, 0, Numbers.power(4799));
        x.set(1 - number, 0, 1);
        CHECK.due("2 ^ 4799 - 1", x.move(number, true), 4799);
        CHECK.same("above", Numbers.read(x, number, 0), Numbers.ones(4799));
        CHECK.due("1 - (2 ^ 4799 - 1)", x.move(1 - number, true), 4799);
        CHECK.due("word 0", x.word(1 - number, 0, 0), -2);
        CHECK.due("2 ^ 4799 - 1 - (2 ^ 4799 - 2)", x.move(number, true), 1);
        CHECK.due("word 0", x.word(number, 0, 0), 1);
    }

    /** "BAD: no such number", and nothing changes. */
    private static void badNumber() {
        for (int no : Numbers.NO_SUCH) {
            State.changesNothing(CHECK, "move(" + no + ", false)", x -> x.move(no, false), ExactFractions.BAD);
            State.changesNothing(CHECK, "move(" + no + ", true)", x -> x.move(no, true), ExactFractions.BAD);
        }
    }
}
