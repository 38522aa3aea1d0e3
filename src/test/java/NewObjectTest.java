import java.util.NoSuchElementException;
import java.util.function.Consumer;

/** Promise 1: a new object has no KEYS, and all is empty. */
public final class NewObjectTest {
    private static final Check CHECK = new Check();

    public static void main(String[] args) {
        allCountsAre0();
        noKeys();
        anEmptyTape();
        anEmptyResult();
        anEmptyMessage();
        objectsShareNothing();
        CHECK.finish();
    }

    private static void refused(String what, Class<? extends RuntimeException> want, Consumer<CurveKeys> call) {
        CHECK.dueRefusal(what + " of a new object", CurveKeys::new, want, call);
    }

    private static void allCountsAre0() {
        CurveKeys x = new CurveKeys();
        for (int what = 0; what <= 9; what++) {
            CHECK.due("count(" + what + ")", x.count(what), 0);
        }
    }

    private static void noKeys() {
        for (int key : new int[] {-1, 0, 1, 99}) {
            refused("open(" + key + ", 0)", NoSuchElementException.class, x -> x.open(key, 0));
            refused("open(" + key + ", 1)", NoSuchElementException.class, x -> x.open(key, 1));
            refused("sign(" + key + ")", NoSuchElementException.class, x -> x.sign(key));
            refused("agree(" + key + ")", NoSuchElementException.class, x -> x.agree(key));
        }
    }

    private static void anEmptyTape() {
        refused("key()", IllegalArgumentException.class, x -> x.key());
        refused("verify()", IllegalArgumentException.class, x -> x.verify());
        refused("point()", IllegalArgumentException.class, x -> x.point());
        refused("end(1)", IllegalArgumentException.class, x -> x.end(1));
        CurveKeys x = new CurveKeys();
        CHECK.due("end(0)", x.end(0), 0);
        CHECK.due("message()", x.message(), 0);
        CHECK.due("feed", x.feed(1, 2, 3, 4, 5), 20);
    }

    private static void anEmptyResult() {
        refused("result(0)", IndexOutOfBoundsException.class, x -> x.result(0));
        refused("result(-1)", IndexOutOfBoundsException.class, x -> x.result(-1));
        refused("back(0, 1)", IndexOutOfBoundsException.class, x -> x.back(0, 1));
        CHECK.due("back(-1, 5)", new CurveKeys().back(-1, 5), 0);
    }

    /** Without a call of message, it is the empty one that is signed and verified. */
    private static void anEmptyMessage() {
        CurveKeys x = new CurveKeys();
        byte[] secret = Made.secret(0);
        Bytes.makeKey(x, secret);
        x.sign(0);
        byte[] signature = Reference.sign(secret, new byte[0]);
        CHECK.due("sign(0)", Bytes.result(x), signature);
        CHECK.due("verify()", Bytes.verify(new CurveKeys(), Reference.publicKey(secret), signature), 0);
    }

    private static void objectsShareNothing() {
        CurveKeys x = new CurveKeys();
        Made.with(3, 40);
        CHECK.due("all beside another object", Insight.into(x), Insight.into(new CurveKeys()));
    }
}
