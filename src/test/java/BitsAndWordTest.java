import java.math.BigInteger;

/** Promises 8 and 9: bits and word. */
public final class BitsAndWordTest {
    private static final Check CHECK = new Check("BitsAndWordTest");

    public static void main(String[] args) {
        for (int number = 0; number < 2; number++) {
            for (int part = 0; part < 2; part++) {
                for (int bits = 1; bits <= 4800; bits = bits < 100 ? bits + 1 : bits + 31) {
                    tells(number, part, Numbers.power(bits - 1));
                    tells(number, part, Numbers.ones(bits));
                }
                tells(number, part, Numbers.power(4799));
                tells(number, part, Numbers.ones(4800));
                tells(number, part, new BigInteger("123456789".repeat(150)));
            }
        }
        wrong();
        CHECK.end();
    }

    private static void tells(int number, int part, BigInteger value) {
        ExactFractions x = new ExactFractions();
        Numbers.put(x, number, part, value);
        String of = "(" + number + ", " + part + ") of " + value.bitLength() + " bits";
        CHECK.due("bits" + of, x.bits(number, part), value.bitLength());
        for (int i = 0; i < 150; i++) {
            CHECK.due("word " + i + " " + of, x.word(number, part, i), value.shiftRight(32 * i).intValue());
        }
        CHECK.due("bits of the other part", x.bits(number, 1 - part), 1 - part);
        CHECK.due("bits of the other number", x.bits(1 - number, 0), 0);
        CHECK.due("word of the other part", x.word(number, 1 - part, 0), 1 - part);
    }

    private static void wrong() {
        ExactFractions x = new ExactFractions();
        for (int number = 0; number < 2; number++) {
            for (int part = 0; part < 2; part++) {
                Numbers.put(x, number, part, Numbers.ones(4800));
            }
        }
        int[] none = {-1, -2, -150, 150, 151, 299, 300, 301, 302, 4800, 1 << 27, 1 << 30, 134217728 + 1,
            Integer.MAX_VALUE, Integer.MIN_VALUE};
        for (int i : none) {
            CHECK.due("word(0, 0, " + i + ")", x.word(0, 0, i), 0);
            CHECK.due("word(1, 1, " + i + ")", x.word(1, 1, i), 0);
        }
        for (int no : Numbers.NO_SUCH) {
            for (int ok = 0; ok < 2; ok++) {
                CHECK.due("bits(" + no + ", " + ok + ")", x.bits(no, ok), ExactFractions.BAD);
                CHECK.due("bits(" + ok + ", " + no + ")", x.bits(ok, no), ExactFractions.BAD);
                CHECK.due("word(" + no + ", " + ok + ", 0)", x.word(no, ok, 0), 0);
                CHECK.due("word(" + ok + ", " + no + ", 0)", x.word(ok, no, 0), 0);
            }
            CHECK.due("bits(" + no + ", " + no + ")", x.bits(no, no), ExactFractions.BAD);
            CHECK.due("word(" + no + ", " + no + ", " + no + ")", x.word(no, no, no), 0);
        }
    }
}
