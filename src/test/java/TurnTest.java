/** Promise 6: turn. */
public final class TurnTest {
    private static final Check CHECK = new Check("TurnTest");

    public static void main(String[] args) {
        for (int number = 0; number < 2; number++) {
            turns(number);
            leavesAllElse(number);
            partsStayApart(number);
            farExponents(number);
            zero(number);
        }
        badNumber();
        CHECK.end();
    }

    private static void turns(int number) {
        State.Recipe recipe = x -> {
            Numbers.put(x, number, 0, Numbers.ones(4800));
            Numbers.put(x, number, 1, Numbers.power(100));
            x.scale(number, true, -4800);
        };
        Counted x = new Counted();
        recipe.on(x);
        CHECK.due("turn(" + number + ")", x.turn(number), 0);
        CHECK.due("bits of above", x.bits(number, 0), 101);
        CHECK.same("under", Numbers.read(x, number, 1), Numbers.ones(4800));
        // -2 ^ 100 / (2 ^ 4800 - 1) * 2 ^ 4800 is just below -2 ^ 100.
        CHECK.due("round up", x.round(number, true), Double.doubleToLongBits(-0x1p100));
        CHECK.due("round down", x.round(number, false), Double.doubleToLongBits(Math.nextDown(-0x1p100)));
        CHECK.same("all after two turns", State.of(y -> {
            recipe.on(y);
            y.turn(number);
            y.turn(number);
        }), State.of(recipe));
    }

    /** "Above and under are put one in place of the other, E becomes -E": the sign and the other number stay. */
    private static void leavesAllElse(int number) {
        for (State.Recipe from : new State.Recipe[] {State.SMALL, State.LONGEST}) {
            State.Recipe recipe = x -> {
                from.on(x);
                x.turn(number);
            };
            CHECK.same("all after turn(" + number + ")", State.of(recipe), State.due(recipe));
        }
    }

    /** What was above is still a part of its own: later changes do not mix the two. */
    private static void partsStayApart(int number) {
        Counted x = new Counted();
        Numbers.put(x, number, 0, Numbers.ones(4800));
        x.turn(number);
        x.set(number, 0, 6);
        CHECK.same("under after set of above", Numbers.read(x, number, 1), Numbers.ones(4800));
        x.set(number, 1, 7);
        CHECK.due("above after set of under", x.word(number, 0, 0), 6);
    }

    /** E at its bounds goes to the other bound. */
    private static void farExponents(int number) {
        Counted x = new Counted();
        x.set(number, 0, 1);
        x.scale(number, false, -12000);
        CHECK.due("turn of 2 ^ -12000", x.turn(number), 0);
        x.set(1 - number, 0, 1);
        x.scale(1 - number, false, 12000);
        CHECK.due("compare() with 2 ^ 12000", x.compare(), 0);
        CHECK.due("turn of 2 ^ 12000", x.turn(number), 0);
        x.scale(1 - number, false, -12000);
        CHECK.due("compare() with 2 ^ -12000", x.compare(), 0);
    }

    /** "ZERO: it is 0", with or without a sign, whatever under and E are, and nothing changes. */
    private static void zero(int number) {
        String call = "turn(" + number + ")";
        for (int e : new int[] {-12000, 0, 9, 12000}) {
            for (int under : new int[] {1, 7}) {
                for (int sign = 0; sign < 2; sign++) {
                    boolean below = sign == 1;
                    State.Recipe recipe = x -> {
                        State.SMALL.on(x);
                        Numbers.put(x, number, 0, under, below, e);
                    };
                    State.changesNothing(CHECK, "0 / " + under + " * 2 ^ " + e, recipe, call,
                            x -> x.turn(number), ExactFractions.ZERO);
                }
            }
        }
        State.changesNothing(CHECK, "a new object", State.NEW, call, x -> x.turn(number), ExactFractions.ZERO);
        State.changesNothing(CHECK, "zeros", State.ZEROS, call, x -> x.turn(number), ExactFractions.ZERO);
    }

    /** "BAD: no such number", and nothing changes. */
    private static void badNumber() {
        for (int no : Numbers.NO_SUCH) {
            State.changesNothing(CHECK, "turn(" + no + ")", x -> x.turn(no), ExactFractions.BAD);
        }
    }
}
