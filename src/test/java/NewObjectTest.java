/** Promise 1, and of the terms "at first 0 / 1 * 2 ^ 0 without a sign". */
public final class NewObjectTest {
    static final String NEW = "0 bits 0 / 1 bits 1 * 2 ^ 0 in 0 .. 0, 0 bits 0 / 1 bits 1 * 2 ^ 0 in 0 .. 0: 0";

    private static final Check CHECK = new Check("NewObjectTest");

    public static void main(String[] args) {
        bothAreZero();
        withoutSignOrExponent();
        noWordBeyond();
        eachObjectHasItsOwn();
        CHECK.end();
    }

    private static void bothAreZero() {
        CHECK.same("a new object", State.of(State.NEW), NEW);
        for (int number = 0; number < 2; number++) {
            CHECK.due("bits of above", new Counted().bits(number, 0), 0);
            CHECK.due("bits of under", new Counted().bits(number, 1), 1);
            CHECK.due("word 0 of under", new Counted().word(number, 1, 0), 1);
            CHECK.due("round down", new Counted().round(number, false), 0);
            CHECK.due("round up", new Counted().round(number, true), 0);
        }
        CHECK.due("compare()", new Counted().compare(), 0);
    }

    /** Once above is 1: 1.0 and not -1.0, nor 1.0 times a power of 2. */
    private static void withoutSignOrExponent() {
        for (int number = 0; number < 2; number++) {
            Counted x = new Counted();
            CHECK.due("set(" + number + ", 0, 1)", x.set(number, 0, 1), 1);
            CHECK.due("round(" + number + ", false)", x.round(number, false), 0x3FF0000000000000L);
            CHECK.due("round(" + number + ", true)", x.round(number, true), 0x3FF0000000000000L);
        }
    }

    private static void noWordBeyond() {
        for (int number = 0; number < 2; number++) {
            Counted x = new Counted();
            for (int i = 0; i < 200; i++) {
                CHECK.due("word " + i + " of above", x.word(number, 0, i), 0);
                CHECK.due("word " + (i + 1) + " of under", x.word(number, 1, i + 1), 0);
            }
        }
    }

    private static void eachObjectHasItsOwn() {
        Counted one = new Counted();
        Counted other = new Counted();
        State.LONGEST.on(one);
        CHECK.due("bits of the other object", other.bits(0, 0), 0);
        CHECK.due("bits of the other object", other.bits(1, 1), 1);
        CHECK.same("a later object", State.of(State.NEW), NEW);
    }
}
