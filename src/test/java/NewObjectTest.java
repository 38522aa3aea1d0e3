import java.util.NoSuchElementException;

/** Promise 1: a new object has no KEYS, and all is empty. */
public final class NewObjectTest {
    public static void main(String[] args) {
        Check check = new Check();
        CurveKeys x = new CurveKeys();
        for (int what = 0; what <= 9; what++) {
            check.due("count(" + what + ")", x.count(what), 0);
        }
        check.dueThrow("open(0, 0)", x, NoSuchElementException.class, () -> {
            x.open(0, 0);
            return 0;
        });
        check.dueThrow("sign(0)", x, NoSuchElementException.class, () -> {
            x.sign(0);
            return 0;
        });
        check.dueThrow("agree(0)", x, NoSuchElementException.class, () -> x.agree(0));
        check.dueThrow("result(0)", x, IndexOutOfBoundsException.class, () -> x.result(0));
        check.due("end(0)", x.end(0), 0);
        check.due("back(-1, 5)", x.back(-1, 5), 0);
        check.due("message()", x.message(), 0);
        objectsShareNothing(check, x);
        check.finish();
    }

    private static void objectsShareNothing(Check check, CurveKeys x) {
        CurveKeys other = new CurveKeys();
        Bytes.makeKey(other, new byte[32]);
        other.open(0, 1);
        other.feed(1, 2, 3, 4, 5);
        check.due("the state beside another object", Check.stateOf(x), Check.stateOf(new CurveKeys()));
    }
}
