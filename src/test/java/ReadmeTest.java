import java.io.IOException;
import java.nio.file.Files;
import java.nio.file.Path;

/** The example of README.md: its lines stand there as they are called here, and answer what it says. */
public final class ReadmeTest {
    private static final Check CHECK = new Check("ReadmeTest");

    private static String readme;

    public static void main(String[] args) throws IOException {
        readme = Files.readString(Path.of("README.md"));
        example();
        constants();
        CHECK.end();
    }

    private static void example() {
        ExactFractions x = new ExactFractions();
        due("x.set(0, 0, 1);", x.set(0, 0, 1), 1);
        due("x.set(0, 1, 3);", x.set(0, 1, 3), 2);
        long low = x.round(0, false);
        long high = x.round(0, true);
        told("Double.longBitsToDouble(low);", low);
        told("Double.longBitsToDouble(high);", high);
        due("x.digit(1, 0, 1000, 333);", x.digit(1, 0, 1000, 333), 9);
        due("x.digit(1, 1, 1000, 0);", x.digit(1, 1, 1000, 0), 10);
        due("x.compare();", x.compare(), 1);
        due("x.scale(1, true, 4);", x.scale(1, true, 4), 0);
        due("x.turn(1);", x.turn(1), 0);
        due("x.move(1, false);", x.move(1, false), 10);
        CHECK.due("above after move", x.word(1, 0, 0), 999);
        told("Double.longBitsToDouble(x.round(1, true));", x.round(1, true));
        due("x.set(1, 1, 0);", x.set(1, 1, 0), ExactFractions.ZERO);
        CHECK.due("under after set", x.word(1, 1, 0), 333);
    }

    private static void constants() {
        stands("`BAD` (" + ExactFractions.BAD + ")");
        stands("`FULL` (" + ExactFractions.FULL + ")");
        stands("`ZERO` (" + ExactFractions.ZERO + ")");
    }

    private static void due(String line, long got, long want) {
        stands(line);
        CHECK.due(line, got, want);
    }

    /** The float is the one that the line's comment tells, to its end. */
    private static void told(String line, long bits) {
        String comment = "// " + Double.longBitsToDouble(bits);
        boolean found = readme.lines().anyMatch(l -> l.startsWith(line) && l.endsWith(comment));
        CHECK.same("README.md has " + line + " .. " + comment, found, true);
    }

    private static void stands(String text) {
        CHECK.same("README.md has " + text, readme.contains(text), true);
    }
}
