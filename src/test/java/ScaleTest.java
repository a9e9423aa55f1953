/** Promise 5: scale. */
public final class ScaleTest {
    private static final Check CHECK = new Check("ScaleTest");

    public static void main(String[] args) {
        for (int number = 0; number < 2; number++) {
            signAndExponent(number);
            replacesBoth(number);
            boundsAreTaken(number);
            farExponents(number);
            signOfZero(number);
            badExponent(number);
        }
        badNumber();
        CHECK.end();
    }

    private static void signAndExponent(int number) {
        Counted x = new Counted();
        x.set(number, 0, 3);
        for (int e = -1000; e <= 1000; e += 50) {
            double value = 3.0 * Math.scalb(1.0, e);
            CHECK.due("scale(" + number + ", true, " + e + ")", x.scale(number, true, e), 0);
            CHECK.due("-3 * 2 ^ " + e, x.round(number, true), Double.doubleToLongBits(-value));
            CHECK.due("scale(" + number + ", false, " + e + ")", x.scale(number, false, e), 0);
            CHECK.due("3 * 2 ^ " + e, x.round(number, true), Double.doubleToLongBits(value));
        }
        CHECK.due("above stays", x.bits(number, 0), 2);
        CHECK.due("under stays", x.bits(number, 1), 1);
        CHECK.due("the other number stays", x.round(1 - number, true), 0);
    }

    /** "A number has a sign, and E": not one that is added to what it had, and nothing else changes. */
    private static void replacesBoth(int number) {
        State.Recipe[] recipes = {State.NEW, State.SMALL, State.ZEROS, State.LONGEST};
        int[] exponents = {0, 1, -1, 11999, -11999, 12000, -12000};
        for (State.Recipe from : recipes) {
            for (int e : exponents) {
                State.Recipe recipe = x -> {
                    from.on(x);
                    x.scale(number, (e & 1) == 0, e);
                };
                CHECK.same("all after scale to " + e, State.of(recipe), State.due(recipe));
            }
        }
    }

    /** "E is from -12000 to 12000", both among them. */
    private static void boundsAreTaken(int number) {
        Counted x = new Counted();
        for (int e : new int[] {12000, -12000, 11999, -11999}) {
            CHECK.due("scale(" + number + ", false, " + e + ")", x.scale(number, false, e), 0);
            CHECK.due("scale(" + number + ", true, " + e + ")", x.scale(number, true, e), 0);
        }
    }

    /** E is held in full up to its bounds: what above and under add to it tells. */
    private static void farExponents(int number) {
        Counted x = new Counted();
        Numbers.put(x, number, 0, Numbers.power(4799));
        CHECK.due("scale to -12000", x.scale(number, false, -12000), 0);
        CHECK.due("2 ^ (4799 - 12000) down", x.round(number, false), 0);
        CHECK.due("2 ^ (4799 - 12000) up", x.round(number, true), 1);
        CHECK.due("scale to -4800", x.scale(number, false, -4800), 0);
        CHECK.due("a half", x.round(number, true), Double.doubleToLongBits(0.5));
        CHECK.due("scale to 12000", x.scale(number, false, 12000), 0);
        x.scale(1 - number, false, 12000);
        x.move(1 - number, false);
        CHECK.due("compare() of equals", x.compare(), 0);
        x.scale(1 - number, false, 11999);
        CHECK.due("compare() of 2 ^ 12000 and 2 ^ 11999", x.compare(), number == 0 ? 1 : -1);
    }

    private static void signOfZero(int number) {
        Counted x = new Counted();
        CHECK.due("scale(" + number + ", true, 0) of 0", x.scale(number, true, 0), 0);
        CHECK.due("round down", x.round(number, false), 0);
        CHECK.due("round up", x.round(number, true), 0);
        CHECK.due("compare() of -0 and 0", x.compare(), 0);
        x.set(number, 0, 1);
        CHECK.due("the sign was kept", x.round(number, false), Double.doubleToLongBits(-1.0));
    }

    /** "BAD: .. e is beyond its bounds", and neither the sign nor E changes. */
    private static void badExponent(int number) {
        for (int e : new int[] {12001, -12001, 24000, -24000, 65536, Integer.MAX_VALUE, Integer.MIN_VALUE}) {
            bad(number, false, e);
            bad(number, true, e);
        }
    }

    /** "BAD: no such number", and nothing changes. */
    private static void badNumber() {
        for (int no : Numbers.NO_SUCH) {
            bad(no, false, 1);
            bad(no, true, -1);
            bad(no, true, 12001);
        }
    }

    private static void bad(int number, boolean below, int e) {
        State.changesNothing(CHECK, "scale(" + number + ", " + below + ", " + e + ")",
                x -> x.scale(number, below, e), ExactFractions.BAD);
    }
}
