/** "An object is used for at most 512 calls after it has been made": the 512th is still answered. */
public final class LastCallTest {
    private static final Check CHECK = new Check("LastCallTest");

    public static void main(String[] args) {
        last("begin", x -> x.begin(0), 0);
        last("digit", x -> x.digit(0, 0, 2, 1), 10);
        last("set", x -> x.set(1, 1, -1), 64);
        last("scale", x -> x.scale(1, true, 12000), 0);
        last("turn", x -> x.turn(0), 0);
        last("move", x -> x.move(1, true), 9);
        last("bits", x -> x.bits(0, 0), 9);
        last("word", x -> x.word(0, 0, 0), 511);
        last("compare", x -> x.compare(), 1);
        last("round", x -> x.round(0, false), Double.doubleToLongBits(511.0));
        last("turn of 0", x -> x.turn(1), ExactFractions.ZERO);
        last("begin of no such number", x -> x.begin(2), ExactFractions.BAD);
        fullAtTheLast();
        CHECK.end();
    }

    /** After 511 calls, each of which adds 1 to number 0's above. */
    private static void last(String name, State.Call call, long due) {
        Counted x = new Counted();
        for (int i = 1; i < Counted.MOST_CALLS; i++) {
            CHECK.due("digit " + i, x.digit(0, 0, 1, 1), 32 - Integer.numberOfLeadingZeros(i));
        }
        CHECK.due(name + " as the 512th call", call.on(x), due);
        CHECK.due("calls left", x.callsLeft(), 0);
    }

    /** As many digits as there are calls: those beyond 4800 bits are all refused, to the last one. */
    private static void fullAtTheLast() {
        Counted x = new Counted();
        Model model = new Model();
        for (int i = 1; i <= Counted.MOST_CALLS; i++) {
            CHECK.due("digit " + i, x.digit(1, 1, 1000000, 1000000), model.digit(1, 1, 1000000, 1000000));
        }
        CHECK.due("what the model says last", model.digit(1, 1, 1000000, 1000000), ExactFractions.FULL);
    }
}
