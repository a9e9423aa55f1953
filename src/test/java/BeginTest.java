/** Promise 2: begin. */
public final class BeginTest {
    public static void main(String[] args) {
        Check check = new Check("BeginTest");
        for (int number = 0; number < 2; number++) {
            ExactFractions x = new ExactFractions();
            fill(x);
            check.due("begin(" + number + ")", x.begin(number), 0);
            check.due("bits above", x.bits(number, 0), 0);
            check.due("bits under", x.bits(number, 1), 1);
            check.due("word 0 of under", x.word(number, 1, 0), 1);
            for (int i = 0; i < 160; i++) {
                check.due("word " + i + " of above", x.word(number, 0, i), 0);
                check.due("word " + (i + 1) + " of under", x.word(number, 1, i + 1), 0);
            }
            check.due("the other's above stays", x.bits(1 - number, 0), 1000);
            check.due("the other's under stays", x.bits(1 - number, 1), 900);
            // The sign and E are gone too.
            x.set(number, 0, 1);
            check.due("round down", x.round(number, false), 0x3FF0000000000000L);
            check.due("round up", x.round(number, true), 0x3FF0000000000000L);
        }
        ExactFractions x = new ExactFractions();
        fill(x);
        String before = Numbers.state(x);
        for (int number : Numbers.NO_SUCH) {
            check.due("begin(" + number + ")", x.begin(number), ExactFractions.BAD);
        }
        check.same("the state after BAD", Numbers.state(x), before);
        x.begin(0);
        x.begin(1);
        check.same("the state after begin of both", Numbers.state(x), NewObjectTest.NEW);
        check.end();
    }

    private static void fill(ExactFractions x) {
        for (int number = 0; number < 2; number++) {
            Numbers.put(x, number, 0, Numbers.ones(1000));
            Numbers.put(x, number, 1, Numbers.ones(900));
            x.scale(number, true, -77);
        }
    }
}
