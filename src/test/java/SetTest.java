import java.math.BigInteger;

/** Promise 4: set. */
public final class SetTest {
    private static final Check CHECK = new Check("SetTest");

    public static void main(String[] args) {
        long[] values = {1, 2, 3, 10, 0x7FFFFFFFL, 0x80000000L, 0xFFFFFFFFL, 0x100000000L, 0x100000001L,
            Long.MAX_VALUE, Long.MIN_VALUE, Long.MIN_VALUE + 1, -2, -1, 0xFFFFFFFF00000000L};
        for (int number = 0; number < 2; number++) {
            for (int part = 0; part < 2; part++) {
                for (long v : values) {
                    replaces(number, part, v);
                }
                leastAndGreatest(number, part);
                leavesAllElse(number, part);
            }
            aboveMayBeZero(number);
            zero(number);
            signAndExponentStay(number);
        }
        badNumber();
        badPart();
        CHECK.end();
    }

    /** "becomes a number, as one without a sign: how many bits it has"; of a longer one nothing is left. */
    private static void replaces(int number, int part, long v) {
        Counted x = new Counted();
        Numbers.put(x, number, part, Numbers.ones(4800));
        BigInteger due = Numbers.unsigned(v);
        String call = "set(" + number + ", " + part + ", " + v + ")";
        CHECK.due(call, x.set(number, part, v), due.bitLength());
        CHECK.due("bits after " + call, x.bits(number, part), due.bitLength());
        CHECK.same("the part after " + call, Numbers.read(x, number, part), due);
        x.digit(number, part, 1000000, 5);
        CHECK.due("word 0 a digit after " + call, x.word(number, part, 0), (int) (v * 1000000 + 5));
        CHECK.due("bits a digit after " + call, x.bits(number, part),
                due.multiply(BigInteger.valueOf(1000000)).add(BigInteger.valueOf(5)).bitLength());
    }

    /** Where a number with a sign would wrap round: 2 ^ 63 - 1, 2 ^ 63 and 2 ^ 64 - 1. */
    private static void leastAndGreatest(int number, int part) {
        Counted x = new Counted();
        CHECK.due("set to 1", x.set(number, part, 1), 1);
        CHECK.due("set to 2 ^ 63 - 1", x.set(number, part, Long.MAX_VALUE), 63);
        CHECK.due("set to 2 ^ 63", x.set(number, part, Long.MIN_VALUE), 64);
        CHECK.due("its word 0", x.word(number, part, 0), 0);
        CHECK.due("its word 1", x.word(number, part, 1), Integer.MIN_VALUE);
        CHECK.due("set to 2 ^ 64 - 1", x.set(number, part, -1), 64);
        CHECK.due("its word 0", x.word(number, part, 0), -1);
        CHECK.due("its word 1", x.word(number, part, 1), -1);
        CHECK.due("its word 2", x.word(number, part, 2), 0);
    }

    private static void leavesAllElse(int number, int part) {
        State.Recipe[] recipes = {State.SMALL, State.ZEROS, State.LONGEST};
        for (State.Recipe from : recipes) {
            State.Recipe recipe = x -> {
                from.on(x);
                x.set(number, part, -3);
            };
            CHECK.same("all after set", State.of(recipe), State.due(recipe));
        }
    }

    private static void aboveMayBeZero(int number) {
        Counted x = new Counted();
        Numbers.put(x, number, 0, Numbers.ones(4800));
        CHECK.due("set of above to 0", x.set(number, 0, 0), 0);
        CHECK.due("its bits", x.bits(number, 0), 0);
        CHECK.same("its words", Numbers.read(x, number, 0), BigInteger.ZERO);
        CHECK.due("compare() with the other 0", x.compare(), 0);
        CHECK.due("round", x.round(number, true), 0);
    }

    /** "ZERO: under would be 0", in every state, and nothing changes. */
    private static void zero(int number) {
        State.changesNothing(CHECK, "set(" + number + ", 1, 0)", x -> x.set(number, 1, 0), ExactFractions.ZERO);
    }

    /** It is v that is taken without a sign; the number keeps its own, and its E. */
    private static void signAndExponentStay(int number) {
        Counted x = new Counted();
        x.scale(number, true, 1);
        x.set(number, 0, 3);
        x.set(number, 1, 2);
        CHECK.due("-3 / 2 * 2", x.round(number, false), Double.doubleToLongBits(-3.0));
        x.set(number, 0, -1);
        x.set(number, 1, -1);
        CHECK.due("-(2 ^ 64 - 1) / (2 ^ 64 - 1) * 2", x.round(number, true), Double.doubleToLongBits(-2.0));
        x.set(number, 0, 0);
        x.set(number, 0, 1);
        x.set(number, 1, 1);
        CHECK.due("-1 / 1 * 2, after a 0", x.round(number, true), Double.doubleToLongBits(-2.0));
    }

    /** "BAD: no such number", for 0 too, and nothing changes. */
    private static void badNumber() {
        for (int no : Numbers.NO_SUCH) {
            for (int part = 0; part < 2; part++) {
                bad(no, part, 0);
                bad(no, part, -1);
            }
        }
    }

    /** "BAD: no such .. part", for 0 too, and nothing changes. */
    private static void badPart() {
        for (int no : Numbers.NO_SUCH) {
            for (int number = 0; number < 2; number++) {
                bad(number, no, 0);
                bad(number, no, 1);
            }
            bad(no, no, 0);
        }
    }

    private static void bad(int number, int part, long v) {
        State.changesNothing(CHECK, "set(" + number + ", " + part + ", " + v + ")",
                x -> x.set(number, part, v), ExactFractions.BAD);
    }
}
