import java.math.BigInteger;

/** Promises 8 and 9: bits and word. */
public final class BitsAndWordTest {
    private static final Check CHECK = new Check("BitsAndWordTest");

    public static void main(String[] args) {
        for (int number = 0; number < 2; number++) {
            for (int part = 0; part < 2; part++) {
                for (int bits = 1; bits <= 4800; bits = bits < 100 ? bits + 1 : bits + 31) {
                    tells(number, part, Numbers.power(bits - 1));
                    tells(number, part, Numbers.ones(bits));
                }
                tells(number, part, Numbers.power(4799));
                tells(number, part, Numbers.ones(4800));
                tells(number, part, new BigInteger("123456789".repeat(150)));
                topWord(number, part);
                noneBeyond(number, part);
                noneBelow(number, part);
                noneWhereItWasLonger(number, part);
            }
            zeroHasNone(number);
        }
        bitsOfNoSuchNumber();
        bitsOfNoSuchPart();
        wordOfNoSuchNumber();
        wordOfNoSuchPart();
        changeNothing();
        CHECK.end();
    }

    private static void tells(int number, int part, BigInteger value) {
        Counted x = new Counted();
        Numbers.put(x, number, part, value);
        String of = "(" + number + ", " + part + ") of " + value.bitLength() + " bits";
        CHECK.due("bits" + of, x.bits(number, part), value.bitLength());
        for (int i = 0; i < 150; i++) {
            CHECK.due("word " + i + " " + of, x.word(number, part, i), value.shiftRight(32 * i).intValue());
        }
        CHECK.due("bits of the other part", x.bits(number, 1 - part), 1 - part);
        CHECK.due("bits of the other number", x.bits(1 - number, 0), 0);
        CHECK.due("word of the other part", x.word(number, 1 - part, 0), 1 - part);
    }

    private static void zeroHasNone(int number) {
        Counted x = new Counted();
        CHECK.due("bits of 0", x.bits(number, 0), 0);
        x.scale(number, true, 12000);
        CHECK.due("bits of 0 with a sign and E", x.bits(number, 0), 0);
        CHECK.due("word 0 of 0", x.word(number, 0, 0), 0);
        CHECK.due("bits of 1", x.bits(number, 1), 1);
    }

    private static Counted longest(int number, int part) {
        Counted x = new Counted();
        Numbers.put(x, number, part, Numbers.ones(4800));
        return x;
    }

    /** The last of the 150 words that 4800 bits fill, its own top bit too. */
    private static void topWord(int number, int part) {
        CHECK.due("word 149 of 2 ^ 4800 - 1", longest(number, part).word(number, part, 149), -1);
        Counted x = new Counted();
        Numbers.put(x, number, part, Numbers.power(4799));
        CHECK.due("word 149 of 2 ^ 4799", x.word(number, part, 149), Integer.MIN_VALUE);
        CHECK.due("word 148 of 2 ^ 4799", x.word(number, part, 148), 0);
    }

    /** "0 when there are none": beyond all bits, where 32 i wraps round too. */
    private static void noneBeyond(int number, int part) {
        Counted x = longest(number, part);
        int[] beyond = {150, 151, 299, 300, 301, 302, 4800, 1 << 26, (1 << 26) - 1, 1 << 27, (1 << 27) + 1,
            (1 << 27) + 149, 1 << 28, 1 << 30, Integer.MAX_VALUE};
        for (int i : beyond) {
            CHECK.due("word(" + number + ", " + part + ", " + i + ")", x.word(number, part, i), 0);
        }
        for (int bits = 1; bits <= 129; bits++) {
            Counted y = new Counted();
            Numbers.put(y, number, part, Numbers.ones(bits));
            CHECK.due("the first word beyond " + bits, y.word(number, part, (bits + 31) / 32), 0);
        }
    }

    /** "0 when there are none": below bit 0, where 32 i wraps round too. */
    private static void noneBelow(int number, int part) {
        Counted x = longest(number, part);
        int[] below = {-1, -2, -149, -150, -301, -(1 << 26), -(1 << 27), 1 - (1 << 27), -(1 << 30),
            Integer.MIN_VALUE, Integer.MIN_VALUE + 1};
        for (int i : below) {
            CHECK.due("word(" + number + ", " + part + ", " + i + ")", x.word(number, part, i), 0);
        }
    }

    private static void noneWhereItWasLonger(int number, int part) {
        Counted x = longest(number, part);
        x.set(number, part, 1);
        CHECK.due("bits once it is 1", x.bits(number, part), 1);
        CHECK.same("words once it is 1", Numbers.read(x, number, part), BigInteger.ONE);
    }

    /** "BAD: no such number", of bits, and nothing changes. */
    private static void bitsOfNoSuchNumber() {
        for (int no : Numbers.NO_SUCH) {
            badBits(no, 0);
            badBits(no, 1);
        }
    }

    /** "BAD: no such .. part", of bits, and nothing changes. */
    private static void bitsOfNoSuchPart() {
        for (int no : Numbers.NO_SUCH) {
            badBits(0, no);
            badBits(1, no);
            badBits(no, no);
        }
    }

    private static void badBits(int number, int part) {
        State.changesNothing(CHECK, "bits(" + number + ", " + part + ")",
                x -> x.bits(number, part), ExactFractions.BAD);
    }

    /** "0 when there are none (or no such number ..)", and not BAD. */
    private static void wordOfNoSuchNumber() {
        for (int no : Numbers.NO_SUCH) {
            for (int i : new int[] {0, 1, 149, -1}) {
                noWord(no, 0, i);
                noWord(no, 1, i);
            }
        }
    }

    /** "0 when there are none (or no such .. part)", and not BAD. */
    private static void wordOfNoSuchPart() {
        for (int no : Numbers.NO_SUCH) {
            for (int i : new int[] {0, 1, 149, -1}) {
                noWord(0, no, i);
                noWord(1, no, i);
            }
            noWord(no, no, no);
        }
    }

    private static void noWord(int number, int part, int i) {
        State.changesNothing(CHECK, "word(" + number + ", " + part + ", " + i + ")",
                x -> x.word(number, part, i), 0);
    }

    /** Both only tell: nothing in the document has them change anything. */
    private static void changeNothing() {
        for (int number = 0; number < 2; number++) {
            for (int part = 0; part < 2; part++) {
                int n = number;
                int p = part;
                State.keeps(CHECK, "bits(" + n + ", " + p + ")", x -> x.bits(n, p));
                State.keeps(CHECK, "word(" + n + ", " + p + ", 0)", x -> x.word(n, p, 0));
                State.keeps(CHECK, "word(" + n + ", " + p + ", 150)", x -> x.word(n, p, 150));
            }
        }
    }
}
