/** Promise 1: both numbers of a new object are 0 / 1 * 2 ^ 0 without a sign. */
public final class NewObjectTest {
    static final String NEW = "0:0 1:1 0 0 0:0 1:1 0 0 0";

    public static void main(String[] args) {
        Check check = new Check("NewObjectTest");
        check.same("the state of a new object", Numbers.state(new ExactFractions()), NEW);
        for (int number = 0; number < 2; number++) {
            ExactFractions x = new ExactFractions();
            check.due("set(" + number + ", 0, 1)", x.set(number, 0, 1), 1);
            // 1.0 and not -1.0, nor 1.0 times a power of 2
            check.due("round(" + number + ", false)", x.round(number, false), 0x3FF0000000000000L);
            check.due("round(" + number + ", true)", x.round(number, true), 0x3FF0000000000000L);
        }
        ExactFractions one = new ExactFractions();
        ExactFractions other = new ExactFractions();
        one.set(0, 0, 5);
        one.scale(1, true, 3);
        check.same("the state of another object", Numbers.state(other), NEW);
        check.same("the state of a later object", Numbers.state(new ExactFractions()), NEW);
        check.end();
    }
}
