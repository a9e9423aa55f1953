import java.math.BigInteger;

/** Promise 3: digit. */
public final class DigitTest {
    private static final Check CHECK = new Check("DigitTest");
    private static final int[][] DIGITS =
        {{10, 7}, {1, 0}, {1, 1000000}, {1000000, 0}, {1000000, 1000000}, {2, 1}, {999999, 3}};

    public static void main(String[] args) {
        for (int number = 0; number < 2; number++) {
            for (int part = 0; part < 2; part++) {
                for (int calls = 1; calls < 240; calls += calls < 30 ? 1 : 13) {
                    becomesByTimesAndMore(number, part, calls);
                }
                leavesAllElse(number, part);
                boundsOfByAndMore(number, part);
                takes4800Bits(number, part);
                full(number, part);
                badBeforeFull(number, part);
            }
            zeroStaysZero(number);
            underStaysOne(number);
        }
        badNumber();
        badPart();
        badBy();
        badMore();
        CHECK.end();
    }

    private static void becomesByTimesAndMore(int number, int part, int calls) {
        Counted x = new Counted();
        BigInteger value = BigInteger.valueOf(part);
        for (int i = 0; i < calls; i++) {
            int[] d = DIGITS[i % DIGITS.length];
            value = value.multiply(BigInteger.valueOf(d[0])).add(BigInteger.valueOf(d[1]));
            String call = "digit(" + number + ", " + part + ", " + d[0] + ", " + d[1] + "), call " + i;
            CHECK.due(call, x.digit(number, part, d[0], d[1]), value.bitLength());
        }
        CHECK.same("the part after " + calls + " digits", Numbers.read(x, number, part), value);
    }

    /** The other part, the other number, the sign and E stay. */
    private static void leavesAllElse(int number, int part) {
        State.Recipe recipe = x -> {
            State.SMALL.on(x);
            x.digit(number, part, 1000000, 999999);
        };
        CHECK.same("all after a digit", State.of(recipe), State.due(recipe));
    }

    /** "by is not 1 .. 1000000, or more not 0 .. 1000000": the bounds themselves are taken. */
    private static void boundsOfByAndMore(int number, int part) {
        int[][] ends = {{1, 0}, {1, 1000000}, {1000000, 0}, {1000000, 1000000}};
        for (int[] d : ends) {
            Counted x = new Counted();
            x.set(number, part, 7);
            BigInteger due = BigInteger.valueOf(7L * d[0] + d[1]);
            String call = "digit(" + number + ", " + part + ", " + d[0] + ", " + d[1] + ") of 7";
            CHECK.due(call, x.digit(number, part, d[0], d[1]), due.bitLength());
            CHECK.same("the part after " + call, Numbers.read(x, number, part), due);
        }
    }

    private static void zeroStaysZero(int number) {
        Counted x = new Counted();
        CHECK.due("digit by 1000000 of 0", x.digit(number, 0, 1000000, 0), 0);
        CHECK.due("digit by 1 of 0", x.digit(number, 0, 1, 0), 0);
        CHECK.due("bits of 0", x.bits(number, 0), 0);
        CHECK.due("digit by 1 and 1 of 0", x.digit(number, 0, 1, 1), 1);
    }

    private static void underStaysOne(int number) {
        Counted x = new Counted();
        CHECK.due("digit by 1 of 1", x.digit(number, 1, 1, 0), 1);
        CHECK.due("under", x.word(number, 1, 0), 1);
    }

    /** "at most 4800 bits": the greatest number of 4800 bits is taken, by every way to it. */
    private static void takes4800Bits(int number, int part) {
        Counted x = new Counted();
        Numbers.put(x, number, part, Numbers.ones(4799));
        CHECK.due("4799 bits", x.bits(number, part), 4799);
        CHECK.due("digit by 2 and 1 of 4799 bits", x.digit(number, part, 2, 1), 4800);
        CHECK.same("2 ^ 4800 - 1", Numbers.read(x, number, part), Numbers.ones(4800));
        CHECK.due("digit by 1 and 0 of 2 ^ 4800 - 1", x.digit(number, part, 1, 0), 4800);
        x = new Counted();
        Numbers.put(x, number, part, Numbers.power(4799));
        CHECK.due("digit by 1 and 1000000 of 2 ^ 4799", x.digit(number, part, 1, 1000000), 4800);
        CHECK.same("2 ^ 4799 + 1000000", Numbers.read(x, number, part),
                Numbers.power(4799).add(BigInteger.valueOf(1000000)));
        x = new Counted();
        Numbers.put(x, number, part, Numbers.ones(4800).subtract(BigInteger.valueOf(1000000)));
        CHECK.due("digit by 1 and 1000000 to 2 ^ 4800 - 1", x.digit(number, part, 1, 1000000), 4800);
        CHECK.same("2 ^ 4800 - 1", Numbers.read(x, number, part), Numbers.ones(4800));
        x = new Counted();
        BigInteger million = BigInteger.valueOf(1000000);
        BigInteger[] split = Numbers.ones(4800).divideAndRemainder(million);
        Numbers.put(x, number, part, split[0]);
        CHECK.due("digit by 1000000 to 2 ^ 4800 - 1", x.digit(number, part, 1000000, split[1].intValue()), 4800);
        CHECK.same("2 ^ 4800 - 1", Numbers.read(x, number, part), Numbers.ones(4800));
    }

    /** "FULL": 4801 bits and more are refused, from 2 ^ 4800 on, and nothing changes. */
    private static void full(int number, int part) {
        refusesFull(number, part, Numbers.ones(4800), 1, 1);
        refusesFull(number, part, Numbers.ones(4800), 2, 0);
        refusesFull(number, part, Numbers.ones(4800), 1000000, 1000000);
        refusesFull(number, part, Numbers.power(4799), 2, 0);
        refusesFull(number, part, Numbers.power(4800).subtract(BigInteger.valueOf(1000000)), 1, 1000000);
        BigInteger million = BigInteger.valueOf(1000000);
        BigInteger[] split = Numbers.power(4800).divideAndRemainder(million);
        refusesFull(number, part, split[0], 1000000, split[1].intValue());
        State.changesNothing(CHECK, "parts of 4800 bits", State.LONGEST, "digit by 1 and 6",
                x -> x.digit(number, part, 1, 6), ExactFractions.FULL);
    }

    private static void refusesFull(int number, int part, BigInteger value, int by, int more) {
        String call = "digit(" + number + ", " + part + ", " + by + ", " + more + ")";
        for (State.Recipe from : new State.Recipe[] {State.SMALL, State.NEAR}) {
            State.Recipe recipe = x -> {
                from.on(x);
                Numbers.put(x, number, part, value);
            };
            State.changesNothing(CHECK, "a part of " + value.bitLength() + " bits", recipe, call,
                    x -> x.digit(number, part, by, more), ExactFractions.FULL);
        }
    }

    /** A wrong call is wrong in every state, so BAD comes before FULL. */
    private static void badBeforeFull(int number, int part) {
        int[][] wrong = {{2, -1}, {2, 1000001}, {1000001, 0}, {0, 1000000}};
        for (int[] d : wrong) {
            State.changesNothing(CHECK, "parts of 4800 bits", State.LONGEST, "digit by " + d[0] + " and " + d[1],
                    x -> x.digit(number, part, d[0], d[1]), ExactFractions.BAD);
        }
    }

    /** "BAD: no such number", and nothing changes. */
    private static void badNumber() {
        for (int no : Numbers.NO_SUCH) {
            for (int part = 0; part < 2; part++) {
                bad(no, part, 1, 1);
            }
        }
    }

    /** "BAD: no such .. part", and nothing changes. */
    private static void badPart() {
        for (int no : Numbers.NO_SUCH) {
            bad(0, no, 1, 1);
            bad(1, no, 1, 1);
            bad(no, no, 1, 1);
        }
    }

    /** "by is not 1 .. 1000000", and nothing changes. */
    private static void badBy() {
        for (int by : new int[] {0, -1, 1000001, Integer.MIN_VALUE, Integer.MAX_VALUE}) {
            bad(0, 0, by, 1);
            bad(0, 1, by, 1);
            bad(1, 0, by, 0);
            bad(1, 1, by, 1000000);
        }
    }

    /** "more not 0 .. 1000000", and nothing changes. */
    private static void badMore() {
        for (int more : new int[] {-1, 1000001, Integer.MIN_VALUE, Integer.MAX_VALUE}) {
            bad(0, 0, 1, more);
            bad(0, 1, 2, more);
            bad(1, 0, 1, more);
            bad(1, 1, 1000000, more);
        }
    }

    private static void bad(int number, int part, int by, int more) {
        State.changesNothing(CHECK, "digit(" + number + ", " + part + ", " + by + ", " + more + ")",
                x -> x.digit(number, part, by, more), ExactFractions.BAD);
    }
}
