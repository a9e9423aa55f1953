import java.math.BigInteger;
import java.util.function.Supplier;

/** All that an object holds: every word, and the sign and E even where no float tells them. */
final class State {
    /** The calls that bring a new object into a state. */
    interface Recipe {
        void on(Fractions x);
    }

    /** One call and its answer. */
    interface Call {
        long on(Fractions x);
    }

    static final Recipe NEW = x -> { };

    /** -77 / 5 * 2 ^ 3 and 99 / 7 * 2 ^ -3. */
    static final Recipe SMALL = x -> {
        Numbers.put(x, 0, 77, 5, true, 3);
        Numbers.put(x, 1, 99, 7, false, -3);
    };

    /** -355 / 113 * 2 and -22 / 7 * 2: both below 0, and too near for their lengths to tell which is less. */
    static final Recipe NEAR = x -> {
        Numbers.put(x, 0, 355, 113, true, 1);
        Numbers.put(x, 1, 22, 7, true, 1);
    };

    /** Both are 0, with all that a 0 can hide: a sign, E at either bound, an under that is not 1. */
    static final Recipe ZEROS = x -> {
        Numbers.put(x, 0, 0, 6, true, 12000);
        Numbers.put(x, 1, 0, -1, false, -12000);
    };

    /** Four unlike parts that all have 4800 bits. */
    static final Recipe LONGEST = x -> {
        Numbers.putAll(x, Numbers.power(4800).subtract(BigInteger.valueOf(6)));
        x.digit(0, 0, 1, 5);
        x.digit(0, 1, 1, 3);
        x.digit(1, 0, 1, 2);
        x.scale(0, true, -12000);
        x.scale(1, false, 12000);
    };

    private static final Recipe[] RECIPES = {NEW, SMALL, NEAR, ZEROS, LONGEST};
    private static final String[] NAMES =
        {"a new object", "small numbers", "near numbers", "zeros", "parts of 4800 bits"};

    private State() {
    }

    /** What the class holds after these calls. */
    static String of(Recipe recipe) {
        return read(recipe, Counted::new);
    }

    /** What it should hold then, as the model has it. */
    static String due(Recipe recipe) {
        return read(recipe, Model::new);
    }

    /** In every kind of state this call has this answer, and changes nothing. */
    static void changesNothing(Check check, String call, Call made, long answer) {
        for (int i = 0; i < RECIPES.length; i++) {
            changesNothing(check, NAMES[i], RECIPES[i], call, made, answer);
        }
    }

    static void changesNothing(Check check, String state, Recipe recipe, String call, Call made, long answer) {
        Counted x = new Counted();
        recipe.on(x);
        check.due(state + ": " + call, made.on(x), answer);
        keeps(check, state, recipe, call, made);
    }

    /** In every kind of state this call changes nothing, whatever it answers. */
    static void keeps(Check check, String call, Call made) {
        for (int i = 0; i < RECIPES.length; i++) {
            keeps(check, NAMES[i], RECIPES[i], call, made);
        }
    }

    private static void keeps(Check check, String state, Recipe recipe, String call, Call made) {
        String after = of(x -> {
            recipe.on(x);
            made.on(x);
        });
        check.same(state + ": what is held after " + call, after, of(recipe));
    }

    // One object has too few calls for all that is read: each thing is read on one of its own.
    private static String read(Recipe recipe, Supplier<Fractions> maker) {
        StringBuilder text = new StringBuilder();
        for (int number = 0; number < 2; number++) {
            for (int part = 0; part < 2; part++) {
                Fractions x = make(recipe, maker);
                text.append(x.bits(number, part)).append(" bits ");
                text.append(Numbers.read(x, number, part).toString(16)).append(part == 0 ? " / " : " * 2 ^ ");
            }
            text.append(exponentAndSign(make(recipe, maker), number));
            Fractions x = make(recipe, maker);
            text.append(" in ").append(x.round(number, false)).append(" .. ").append(x.round(number, true));
            text.append(number == 0 ? ", " : ": ");
        }
        return text.append(make(recipe, maker).compare()).toString();
    }

    private static Fractions make(Recipe recipe, Supplier<Fractions> maker) {
        Fractions x = maker.get();
        recipe.on(x);
        return x;
    }

    /** Looks for the power of 2 that the number equals once its parts are 1, by halves. */
    private static String exponentAndSign(Fractions x, int number) {
        int other = 1 - number;
        x.set(number, 0, 1);
        x.set(number, 1, 1);
        x.begin(other);
        int sign = orderToOther(x, number);
        x.set(other, 0, 1);
        int least = -12000;
        int most = 12000;
        while (least < most) {
            int middle = Math.floorDiv(least + most, 2);
            x.scale(other, sign < 0, middle);
            if (orderToOther(x, number) * sign > 0) {
                least = middle + 1;
            } else {
                most = middle;
            }
        }
        x.scale(other, sign < 0, least);
        String found = orderToOther(x, number) == 0 ? "" + least : "(beyond " + least + ")";
        return found + (sign < 0 ? " below 0" : "");
    }

    private static int orderToOther(Fractions x, int number) {
        return number == 0 ? x.compare() : -x.compare();
    }
}
