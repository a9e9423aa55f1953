import java.math.BigInteger;

/** Promise 2: begin. */
public final class BeginTest {
    private static final Check CHECK = new Check("BeginTest");

    public static void main(String[] args) {
        for (int number = 0; number < 2; number++) {
            isNewAgain(number, "small numbers", State.SMALL);
            isNewAgain(number, "zeros", State.ZEROS);
            isNewAgain(number, "parts of 4800 bits", State.LONGEST);
            growsFromNothing(number);
        }
        bothBegin();
        badNumber();
        CHECK.end();
    }

    /** "A number is 0 / 1 * 2 ^ 0 without a sign again", from every kind of state; the other one stays. */
    private static void isNewAgain(int number, String state, State.Recipe recipe) {
        Counted x = new Counted();
        recipe.on(x);
        String call = state + ": begin(" + number + ")";
        CHECK.due(call, x.begin(number), 0);
        CHECK.due("bits of above after " + call, x.bits(number, 0), 0);
        CHECK.due("bits of under after " + call, x.bits(number, 1), 1);
        State.Recipe begun = y -> {
            recipe.on(y);
            y.begin(number);
        };
        CHECK.same("all after " + call, State.of(begun), State.due(begun));
        // The sign and E are gone too.
        x.set(number, 0, 1);
        CHECK.due("round down after " + call, x.round(number, false), 0x3FF0000000000000L);
        CHECK.due("round up after " + call, x.round(number, true), 0x3FF0000000000000L);
    }

    /** No bit of what was there comes back when the parts grow again. */
    private static void growsFromNothing(int number) {
        for (int part = 0; part < 2; part++) {
            Counted x = new Counted();
            State.LONGEST.on(x);
            x.begin(number);
            BigInteger due = BigInteger.valueOf(part);
            for (int i = 0; i < 60; i++) {
                x.digit(number, part, 1000000, 0);
                due = due.multiply(BigInteger.valueOf(1000000));
            }
            CHECK.same("a part made after begin", Numbers.read(x, number, part), due);
        }
    }

    private static void bothBegin() {
        CHECK.same("begin of both", State.of(x -> {
            State.LONGEST.on(x);
            x.begin(0);
            x.begin(1);
        }), NewObjectTest.NEW);
    }

    /** "BAD: no such number", and nothing changes. */
    private static void badNumber() {
        for (int no : Numbers.NO_SUCH) {
            State.changesNothing(CHECK, "begin(" + no + ")", x -> x.begin(no), ExactFractions.BAD);
        }
    }
}
