/** An object of the class, for its first 512 calls: of what comes later the document says nothing. */
final class Counted implements Fractions {
    static final int MOST_CALLS = 512;

    private final ExactFractions x = new ExactFractions();
    private int calls;

    private ExactFractions next() {
        calls++;
        if (calls > MOST_CALLS) {
            throw new IllegalStateException("a test makes more than 512 calls on one object");
        }
        return x;
    }

    int callsLeft() {
        return MOST_CALLS - calls;
    }

    public int begin(int number) {
        return next().begin(number);
    }

    public int digit(int number, int part, int by, int more) {
        return next().digit(number, part, by, more);
    }

    public int set(int number, int part, long v) {
        return next().set(number, part, v);
    }

    public int scale(int number, boolean below, int e) {
        return next().scale(number, below, e);
    }

    public int turn(int number) {
        return next().turn(number);
    }

    public int move(int number, boolean down) {
        return next().move(number, down);
    }

    public int bits(int number, int part) {
        return next().bits(number, part);
    }

    public int word(int number, int part, int i) {
        return next().word(number, part, i);
    }

    public int compare() {
        return next().compare();
    }

    public long round(int number, boolean up) {
        return next().round(number, up);
    }
}
