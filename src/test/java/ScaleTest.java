/** Promise 5: scale. */
public final class ScaleTest {
    private static final Check CHECK = new Check("ScaleTest");

    public static void main(String[] args) {
        for (int number = 0; number < 2; number++) {
            signAndExponent(number);
            farExponents(number);
        }
        signOfZero();
        bad();
        CHECK.end();
    }

    private static void signAndExponent(int number) {
        ExactFractions x = new ExactFractions();
        x.set(number, 0, 3);
        for (int e = -1000; e <= 1000; e += 50) {
            double value = 3.0 * Math.scalb(1.0, e);
            CHECK.due("scale(" + number + ", true, " + e + ")", x.scale(number, true, e), 0);
            CHECK.due("-3 * 2 ^ " + e, x.round(number, true), Double.doubleToLongBits(-value));
            CHECK.due("scale(" + number + ", false, " + e + ")", x.scale(number, false, e), 0);
            CHECK.due("3 * 2 ^ " + e, x.round(number, true), Double.doubleToLongBits(value));
        }
        CHECK.due("above stays", x.bits(number, 0), 2);
        CHECK.due("under stays", x.bits(number, 1), 1);
        CHECK.due("the other number stays", x.round(1 - number, true), 0);
    }

    /** E is held in full up to its bounds: what above and under add to it tells. */
    private static void farExponents(int number) {
        ExactFractions x = new ExactFractions();
        Numbers.put(x, number, 0, Numbers.power(4799));
        x.set(number, 1, 1);
        CHECK.due("scale to -12000", x.scale(number, false, -12000), 0);
        CHECK.due("2 ^ (4799 - 12000) down", x.round(number, false), 0);
        CHECK.due("2 ^ (4799 - 12000) up", x.round(number, true), 1);
        CHECK.due("scale to -4800", x.scale(number, false, -4800), 0);
        CHECK.due("a half", x.round(number, true), Double.doubleToLongBits(0.5));
        CHECK.due("scale to 12000", x.scale(number, false, 12000), 0);
        // The other number is the same value the other way: 2 ^ 12000 * 2 ^ 4799.
        x.scale(1 - number, false, 12000);
        Numbers.put(x, 1 - number, 0, Numbers.power(4799));
        CHECK.due("compare() of equals", x.compare(), 0);
        x.scale(1 - number, false, 11999);
        CHECK.due("compare() of 2 ^ 12000 and 2 ^ 11999", x.compare(), number == 0 ? 1 : -1);
    }

    private static void signOfZero() {
        ExactFractions x = new ExactFractions();
        CHECK.due("scale(0, true, 0) of 0", x.scale(0, true, 0), 0);
        CHECK.due("round(0, false)", x.round(0, false), 0);
        CHECK.due("compare() of -0 and 0", x.compare(), 0);
        x.set(0, 0, 1);
        CHECK.due("the sign was kept", x.round(0, false), Double.doubleToLongBits(-1.0));
    }

    private static void bad() {
        ExactFractions x = Numbers.sample();
        String before = Numbers.state(x);
        for (int no : Numbers.NO_SUCH) {
            CHECK.due("scale(" + no + ", false, 0)", x.scale(no, false, 0), ExactFractions.BAD);
        }
        for (int e : new int[] {12001, -12001, Integer.MAX_VALUE, Integer.MIN_VALUE}) {
            CHECK.due("scale(0, false, " + e + ")", x.scale(0, false, e), ExactFractions.BAD);
            CHECK.due("scale(1, true, " + e + ")", x.scale(1, true, e), ExactFractions.BAD);
        }
        CHECK.same("the state after BAD", Numbers.state(x), before);
    }
}
