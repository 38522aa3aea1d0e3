/** Promise 1: a new object has no KEYS, and all is empty. */
public final class NewObjectTest {
    public static void main(String[] args) {
        CurveKeys x = new CurveKeys();
        for (int what = 0; what <= 9; what++) {
            if (x.count(what) != 0) {
                System.out.println("count(" + what + ") of a new object is " + x.count(what));
                System.exit(1);
            }
        }
    }
}
