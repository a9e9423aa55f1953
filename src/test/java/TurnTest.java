/** Promise 6: turn. */
public final class TurnTest {
    private static final Check CHECK = new Check("TurnTest");

    public static void main(String[] args) {
        for (int number = 0; number < 2; number++) {
            turns(number);
            farExponents(number);
        }
        refused();
        CHECK.end();
    }

    private static void turns(int number) {
        ExactFractions x = new ExactFractions();
        Numbers.put(x, number, 0, Numbers.ones(4800));
        Numbers.put(x, number, 1, Numbers.power(100));
        x.scale(number, true, -4800);
        Numbers.put(x, 1 - number, 5, 9, true, 4);
        String before = Numbers.state(x);
        CHECK.due("turn(" + number + ")", x.turn(number), 0);
        CHECK.same("above", Numbers.read(x, number, 0), Numbers.power(100));
        CHECK.same("under", Numbers.read(x, number, 1), Numbers.ones(4800));
        // -2 ^ 100 / (2 ^ 4800 - 1) * 2 ^ 4800 is just below -2 ^ 100.
        CHECK.due("round up", x.round(number, true), Double.doubleToLongBits(-0x1p100));
        CHECK.due("round down", x.round(number, false), Double.doubleToLongBits(Math.nextDown(-0x1p100)));
        CHECK.due("the other's above stays", x.word(1 - number, 0, 0), 5);
        CHECK.due("the other's under stays", x.word(1 - number, 1, 0), 9);
        CHECK.due("turn(" + number + ") back", x.turn(number), 0);
        CHECK.same("the state after two turns", Numbers.state(x), before);
        // What was above is still a part of its own: later changes do not mix the two.
        x.turn(number);
        x.set(number, 0, 6);
        CHECK.same("under after set of above", Numbers.read(x, number, 1), Numbers.ones(4800));
    }

    private static void farExponents(int number) {
        ExactFractions x = new ExactFractions();
        x.set(number, 0, 1);
        x.scale(number, false, -12000);
        CHECK.due("turn of 2 ^ -12000", x.turn(number), 0);
        x.set(1 - number, 0, 1);
        x.scale(1 - number, false, 12000);
        CHECK.due("compare() with 2 ^ 12000", x.compare(), 0);
        CHECK.due("turn of 2 ^ 12000", x.turn(number), 0);
        x.scale(1 - number, false, -12000);
        CHECK.due("compare() with 2 ^ -12000", x.compare(), 0);
    }

    private static void refused() {
        ExactFractions x = new ExactFractions();
        x.set(0, 1, 7);
        x.scale(0, true, 9);
        Numbers.put(x, 1, 99, 7, false, -3);
        String before = Numbers.state(x);
        CHECK.due("turn(0) of 0", x.turn(0), ExactFractions.ZERO);
        for (int no : Numbers.NO_SUCH) {
            CHECK.due("turn(" + no + ")", x.turn(no), ExactFractions.BAD);
        }
        CHECK.same("the state after refusals", Numbers.state(x), before);
        x.set(0, 0, 7);
        CHECK.due("sign and E stayed", x.round(0, true), Double.doubleToLongBits(-512.0));
    }
}
