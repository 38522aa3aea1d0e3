/** Promise 13: count. */
public final class CountTest {
    public static void main(String[] args) {
        Check check = new Check();
        CurveKeys x = new CurveKeys();
        fillWithDistinctCounts(x);
        int[] due = {20, 2, 3, 32, 4, 5, 6, 7, 8, 9};
        for (int what = 0; what < due.length; what++) {
            check.due("count(" + what + ")", x.count(what), due[what]);
        }
        for (int what : new int[] {-1, 10, 11, 100, Integer.MIN_VALUE, Integer.MAX_VALUE}) {
            check.due("count(" + what + ")", x.count(what), -1);
        }
        check.finish();
    }

    /** Every number is another one, so that no two of them can be taken for each other. */
    private static void fillWithDistinctCounts(CurveKeys x) {
        byte[] secret = new byte[32];
        byte[] message = {1, 2, 3};
        byte[] publicKey = Reference.publicKey(secret);
        byte[] good = Reference.sign(secret, message);
        Bytes.makeKey(x, secret);
        Bytes.makeKey(x, secret);
        Bytes.setMessage(x, message);
        times(4, () -> x.sign(0));
        times(5, () -> Bytes.verify(x, publicKey, good));
        times(6, () -> Bytes.verify(x, publicKey, Bytes.flipped(good, 511)));
        times(7, () -> Bytes.verify(x, Bytes.ofNumber(Reference.P), good));
        times(8, () -> Bytes.verify(x, publicKey, Bytes.flipped(good, 0)));
        times(9, () -> agreeWith(x, new byte[32]));
        times(3, () -> agreeWith(x, publicKey));
        x.feed(1, 2, 3, 4, 5);
    }

    private static void agreeWith(CurveKeys x, byte[] other) {
        Bytes.feed(x, other);
        x.agree(1);
    }

    private static void times(int count, Runnable call) {
        for (int i = 0; i < count; i++) {
            call.run();
        }
    }
}
