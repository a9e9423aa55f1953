import java.math.BigInteger;
import java.util.ArrayList;
import java.util.List;
import java.util.Random;

/** All promises: long runs of calls of every kind, each answer against the model's. */
public final class RandomRunsTest {
    private static final Check CHECK = new Check("RandomRunsTest");
    private static final int RUNS = 600;

    // What reads a state at the end of a run takes up to 151 calls.
    private static final int CALLS_BEFORE_STATE = Counted.MOST_CALLS - 151;

    private final String name;
    private final Random random;
    private final Counted x = new Counted();
    private final Model model = new Model();
    private final List<State.Call> made = new ArrayList<>();
    private final int wrongCalls;

    private RandomRunsTest(int seed) {
        name = "run " + seed + ", call ";
        random = new Random(seed);
        wrongCalls = random.nextBoolean() ? 10 : 100;
    }

    public static void main(String[] args) {
        for (int seed = 0; seed < RUNS && !CHECK.isWrong(); seed++) {
            RandomRunsTest run = new RandomRunsTest(seed);
            if (seed % 4 < 2) {
                run.fillUp();
            }
            if (seed % 2 == 0) {
                run.callsUntilLeft(0);
            } else {
                run.callsUntilLeft(Counted.MOST_CALLS - CALLS_BEFORE_STATE);
                run.endsAsDue();
            }
        }
        CHECK.end();
    }

    /** Near the greatest length, where FULL is told. */
    private void fillUp() {
        BigInteger value = new BigInteger(4700 + random.nextInt(101), random).setBit(4700);
        ask("all four parts of " + value.bitLength() + " bits", y -> {
            Numbers.putAll(y, value);
            return 0;
        });
    }

    private void callsUntilLeft(int left) {
        while (x.callsLeft() > left && !CHECK.isWrong()) {
            call();
        }
    }

    private void endsAsDue() {
        State.Recipe again = y -> {
            for (State.Call call : made) {
                call.on(y);
            }
        };
        CHECK.same(name + "all at its end", State.of(again), State.due(again));
    }

    private void ask(String text, State.Call call) {
        String at = name + made.size() + ": ";
        made.add(call);
        CHECK.due(at + text, call.on(x), call.on(model));
    }

    private int which() {
        return random.nextInt(wrongCalls) == 0 ? random.nextInt() >> random.nextInt(32) : random.nextInt(2);
    }

    private int upTo(int most) {
        switch (random.nextInt(wrongCalls)) {
            case 0: return most + random.nextInt(2);
            case 1: return -random.nextInt(2);
            case 2: return random.nextInt();
            case 3: return 1;
            default: return random.nextInt(most + 1) >> random.nextInt(20);
        }
    }

    private int exponent() {
        switch (random.nextInt(8)) {
            case 0: return (random.nextBoolean() ? 1 : -1) * upTo(12000);
            case 1: return -1074 + random.nextInt(60) - random.nextInt(60) - balance();
            case 2: return 1024 + random.nextInt(4) - random.nextInt(4) - balance();
            case 3: return -balance() + random.nextInt(3) - 1;
            case 4: return model.exponents[random.nextInt(2)];
            default: return random.nextInt(100) - 50;
        }
    }

    private int balance() {
        int number = random.nextInt(2);
        return model.parts[number][0].bitLength() - model.parts[number][1].bitLength();
    }

    private void call() {
        int n = which();
        int p = which();
        boolean b = random.nextBoolean();
        switch (random.nextInt(16)) {
            case 0:
                if (random.nextInt(10) == 0) {
                    ask("begin(" + n + ")", y -> y.begin(n));
                }
                break;
            case 1:
                long v = random.nextInt(20) == 0 ? 0 : random.nextLong() >>> random.nextInt(64);
                if (random.nextInt(4) == 0) {
                    ask("set(" + n + ", " + p + ", " + v + ")", y -> y.set(n, p, v));
                }
                break;
            case 2:
            case 3:
                int e = exponent();
                ask("scale(" + n + ", " + b + ", " + e + ")", y -> y.scale(n, b, e));
                break;
            case 4:
                ask("turn(" + n + ")", y -> y.turn(n));
                break;
            case 5:
            case 6:
                ask("move(" + n + ", " + b + ")", y -> y.move(n, b));
                break;
            case 7:
                ask("bits(" + n + ", " + p + ")", y -> y.bits(n, p));
                break;
            case 8:
                int i = random.nextInt(5) == 0 ? random.nextInt() : random.nextInt(160) - 4;
                ask("word(" + n + ", " + p + ", " + i + ")", y -> y.word(n, p, i));
                break;
            case 9:
                ask("compare()", y -> y.compare());
                break;
            case 10:
                ask("round(" + n + ", " + b + ")", y -> y.round(n, b));
                break;
            default:
                int by = upTo(1000000);
                int more = upTo(1000000);
                ask("digit(" + n + ", " + p + ", " + by + ", " + more + ")", y -> y.digit(n, p, by, more));
        }
    }
}
