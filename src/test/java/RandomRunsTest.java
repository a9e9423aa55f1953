import java.math.BigInteger;
import java.util.Random;

/** All promises: long runs of calls of every kind, each answer against the model's. */
public final class RandomRunsTest {
    private static final Check CHECK = new Check("RandomRunsTest");
    private static final int CALLS = 512;

    private final Random random;
    private final ExactFractions x = new ExactFractions();
    private final Model model = new Model();
    private final int wrongCalls;

    private RandomRunsTest(long seed) {
        random = new Random(seed);
        wrongCalls = random.nextBoolean() ? 10 : 100;
    }

    public static void main(String[] args) {
        for (int seed = 0; seed < 400 && !CHECK.isWrong(); seed++) {
            RandomRunsTest run = new RandomRunsTest(seed);
            if (seed % 4 == 0) {
                run.fillUp();
            }
            for (int i = 0; i < CALLS && !CHECK.isWrong(); i++) {
                run.call("run " + seed + ", call " + i + ": ");
            }
            run.allWords("run " + seed + " at its end: ");
        }
        CHECK.end();
    }

    /** Near the greatest length, where FULL is told. */
    private void fillUp() {
        for (int number = 0; number < 2; number++) {
            for (int part = 0; part < 2; part++) {
                BigInteger value = new BigInteger(4700 + random.nextInt(101), random).setBit(4700);
                Numbers.put(x, number, part, value);
                model.parts[number][part] = value;
            }
        }
    }

    private int which() {
        return random.nextInt(wrongCalls) == 0 ? random.nextInt() >> random.nextInt(32) : random.nextInt(2);
    }

    private int upTo(int most) {
        switch (random.nextInt(wrongCalls)) {
            case 0: return most + random.nextInt(2);
            case 1: return -random.nextInt(2);
            case 2: return random.nextInt();
            case 3: return 1;
            default: return random.nextInt(most + 1) >> random.nextInt(20);
        }
    }

    private int exponent() {
        switch (random.nextInt(8)) {
            case 0: return (random.nextBoolean() ? 1 : -1) * upTo(12000);
            case 1: return -1074 + random.nextInt(60) - random.nextInt(60) - balance();
            case 2: return 1024 + random.nextInt(4) - random.nextInt(4) - balance();
            case 3: return -balance() + random.nextInt(3) - 1;
            case 4: return model.exponents[random.nextInt(2)];
            default: return random.nextInt(100) - 50;
        }
    }

    private int balance() {
        int number = random.nextInt(2);
        return model.parts[number][0].bitLength() - model.parts[number][1].bitLength();
    }

    private void call(String at) {
        int n = which();
        int p = which();
        boolean b = random.nextBoolean();
        switch (random.nextInt(16)) {
            case 0:
                if (random.nextInt(10) == 0) {
                    CHECK.due(at + "begin(" + n + ")", x.begin(n), model.begin(n));
                }
                break;
            case 1:
                long v = random.nextLong() >>> random.nextInt(64);
                v = random.nextInt(20) == 0 ? 0 : v;
                if (random.nextInt(4) == 0) {
                    CHECK.due(at + "set(" + n + ", " + p + ", " + v + ")", x.set(n, p, v), model.set(n, p, v));
                }
                break;
            case 2:
            case 3:
                int e = exponent();
                CHECK.due(at + "scale(" + n + ", " + b + ", " + e + ")", x.scale(n, b, e), model.scale(n, b, e));
                break;
            case 4:
                CHECK.due(at + "turn(" + n + ")", x.turn(n), model.turn(n));
                break;
            case 5:
            case 6:
                CHECK.due(at + "move(" + n + ", " + b + ")", x.move(n, b), model.move(n, b));
                break;
            case 7:
                CHECK.due(at + "bits(" + n + ", " + p + ")", x.bits(n, p), model.bits(n, p));
                break;
            case 8:
                int i = random.nextInt(5) == 0 ? random.nextInt() : random.nextInt(160) - 4;
                CHECK.due(at + "word(" + n + ", " + p + ", " + i + ")", x.word(n, p, i), model.word(n, p, i));
                break;
            case 9:
                CHECK.due(at + "compare()", x.compare(), model.compare());
                break;
            case 10:
                CHECK.due(at + "round(" + n + ", " + b + ")", x.round(n, b), model.round(n, b));
                break;
            default:
                int by = upTo(1000000);
                int more = upTo(1000000);
                CHECK.due(at + "digit(" + n + ", " + p + ", " + by + ", " + more + ")",
                        x.digit(n, p, by, more), model.digit(n, p, by, more));
        }
    }

    private void allWords(String at) {
        for (int number = 0; number < 2; number++) {
            for (int part = 0; part < 2; part++) {
                CHECK.same(at + "part " + part + " of " + number,
                        Numbers.read(x, number, part), model.parts[number][part]);
            }
            CHECK.due(at + "round down", x.round(number, false), model.round(number, false));
            CHECK.due(at + "round up", x.round(number, true), model.round(number, true));
        }
        CHECK.due(at + "compare()", x.compare(), model.compare());
    }
}
