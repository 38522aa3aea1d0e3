import java.util.NoSuchElementException;

/** Promise 13: count. */
public final class CountTest {
    private static final byte[] PUBLIC_KEY = Reference.publicKey(Made.secret(0));
    private static final byte[] GOOD = Reference.sign(Made.secret(0), Made.MESSAGE);
    private static final Check CHECK = new Check();

    public static void main(String[] args) {
        everyCountIsItsOwn();
        otherNumbersCountNothing();
        onlyAgreementsOf0AreCounted();
        refusedCallsAreNotCounted();
        CHECK.finish();
    }

    /** Every number is another one, so that no two of them can be taken for each other. */
    private static CurveKeys withDistinctCounts() {
        CurveKeys x = Made.with(2, 0);
        times(3, () -> x.sign(0));
        times(5, () -> Bytes.verify(x, PUBLIC_KEY, GOOD));
        times(6, () -> Bytes.verify(x, PUBLIC_KEY, Bytes.flipped(GOOD, 511)));
        times(7, () -> Bytes.verify(x, Bytes.ofNumber(Reference.P), GOOD));
        times(8, () -> Bytes.verify(x, PUBLIC_KEY, Bytes.flipped(GOOD, 0)));
        times(9, () -> agreeWith(x, new byte[32]));
        times(3, () -> agreeWith(x, PUBLIC_KEY));
        x.feed(1, 2, 3, 4, 5);
        return x;
    }

    private static void agreeWith(CurveKeys x, byte[] other) {
        Bytes.feed(x, other);
        x.agree(1);
    }

    private static void times(int count, Runnable call) {
        for (int i = 0; i < count; i++) {
            call.run();
        }
    }

    private static void everyCountIsItsOwn() {
        CurveKeys x = withDistinctCounts();
        int[] due = {20, 2, 3, 32, 4, 5, 6, 7, 8, 9};
        for (int what = 0; what < due.length; what++) {
            CHECK.due("count(" + what + ")", x.count(what), due[what]);
        }
    }

    private static void otherNumbersCountNothing() {
        CurveKeys x = withDistinctCounts();
        for (int what : new int[] {-1, 10, 11, 100, 256, 265, Integer.MIN_VALUE, Integer.MAX_VALUE}) {
            CHECK.due("count(" + what + ")", x.count(what), -1);
            CHECK.due("count(" + what + ") of a new object", new CurveKeys().count(what), -1);
        }
    }

    private static void onlyAgreementsOf0AreCounted() {
        CurveKeys x = Made.with(2, 0);
        agreeWith(x, PUBLIC_KEY);
        CHECK.due("count(9) after an agreement", x.count(9), 0);
        agreeWith(x, new byte[32]);
        CHECK.due("count(9) after one of 0", x.count(9), 1);
        agreeWith(x, PUBLIC_KEY);
        CHECK.due("count(9) after another", x.count(9), 1);
    }

    private static void refusedCallsAreNotCounted() {
        CHECK.dueRefusal("sign(2)", CountTest::withDistinctCounts, NoSuchElementException.class, x -> x.sign(2));
        CHECK.dueRefusal("agree(2)", CountTest::withDistinctCounts, NoSuchElementException.class, x -> x.agree(2));
        CHECK.dueRefusal("agree(0)", CountTest::withDistinctCounts, IllegalArgumentException.class, x -> x.agree(0));
        CHECK.dueRefusal("verify()", CountTest::withDistinctCounts, IllegalArgumentException.class, x -> x.verify());
        CHECK.dueRefusal("key()", CountTest::withDistinctCounts, IllegalArgumentException.class, x -> x.key());
    }
}
