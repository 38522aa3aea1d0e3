import java.util.NoSuchElementException;

/** Promises 4 and 5: key and open. */
public final class KeyTest {
    private static final byte[] NINE = Bytes.ofNumber(Reference.number(9));
    private static final Check CHECK = new Check();

    public static void main(String[] args) {
        keysAreNumberedFrom0();
        keyIsRefusedWithout32Bytes();
        theHundredthKeyIsTheLast();
        keyIsRefusedWhereThereAre100();
        aWrongTapeIsToldBeforeTheHundredKeys();
        openShowsBothShapes();
        openOfStandardVectors();
        openIsRefusedWithoutTheKey();
        openIsRefusedForAnotherShape();
        aMissingKeyIsToldBeforeAnotherShape();
        CHECK.finish();
    }

    private static void keysAreNumberedFrom0() {
        CurveKeys x = new CurveKeys();
        for (int i = 0; i < 3; i++) {
            Bytes.feed(x, new byte[32]);
            CHECK.due("key() of the same bytes again", x.key(), i);
            CHECK.due("count(0) after key", x.count(0), 0);
            CHECK.due("count(1) after key", x.count(1), i + 1);
        }
    }

    private static void keyIsRefusedWithout32Bytes() {
        for (int length : new int[] {0, 1, 20, 31, 33, 64, 65536}) {
            CHECK.dueRefusal("key() of " + length, () -> Made.with(2, length), IllegalArgumentException.class,
                    x -> x.key());
        }
    }

    private static void theHundredthKeyIsTheLast() {
        CurveKeys x = Made.with(99, 32);
        CHECK.due("the hundredth key()", x.key(), 99);
        CHECK.due("count(1)", x.count(1), 100);
        for (int key = 0; key < 100; key++) {
            byte[] secret = key == 99 ? Made.tape(32) : Made.secret(key);
            x.open(key, 0);
            CHECK.due("open(" + key + ", 0) of 100", Bytes.result(x), Reference.x25519(secret, NINE));
        }
        x.sign(99);
        CHECK.due("sign(99)", Bytes.result(x), Reference.sign(Made.tape(32), Made.MESSAGE));
    }

    private static void keyIsRefusedWhereThereAre100() {
        CHECK.dueRefusal("key() with 100", () -> Made.with(100, 32), IllegalStateException.class, x -> x.key());
    }

    private static void aWrongTapeIsToldBeforeTheHundredKeys() {
        for (int length : new int[] {0, 31, 33}) {
            CHECK.dueRefusal("key() of " + length + " with 100", () -> Made.with(100, length),
                    IllegalArgumentException.class, x -> x.key());
        }
    }

    /** Bits that both shapes cut off or set must not matter or must, just as the standards say. */
    private static void openShowsBothShapes() {
        CurveKeys x = new CurveKeys();
        byte[][] secrets = new byte[8][];
        byte[] ones = Bytes.ofNumber(Reference.ONE.shiftLeft(256).subtract(Reference.ONE));
        for (int i = 0; i < secrets.length; i++) {
            secrets[i] = i == 0 ? new byte[32] : i == 1 ? ones : Made.secret(i);
            Bytes.makeKey(x, secrets[i]);
        }
        for (int i = secrets.length - 1; i >= 0; i--) {
            x.open(i, 0);
            CHECK.due("open(" + i + ", 0)", Bytes.result(x), Reference.x25519(secrets[i], NINE));
            x.open(i, 1);
            CHECK.due("open(" + i + ", 1)", Bytes.result(x), Reference.publicKey(secrets[i]));
            x.open(i, 1);
            CHECK.due("open(" + i + ", 1) again", Bytes.result(x), Reference.publicKey(secrets[i]));
        }
        x.sign(0);
        x.feed(1, 2, 3, 4, 5);
        x.open(0, 0);
        CHECK.due("count(3) of open after sign", x.count(3), 32);
        CHECK.due("count(0) after open", x.count(0), 20);
    }

    private static void openOfStandardVectors() {
        CurveKeys x = new CurveKeys();
        Bytes.makeKey(x, Bytes.ofHex("9d61b19deffd5a60ba844af492ec2cc44449c5697b326919703bac031cae7f60"));
        Bytes.makeKey(x, Bytes.ofHex("5dab087e624a8a4b79e17f8b83800ee66f3bb1292618b6fd1c2f8b27ff88e0eb"));
        x.open(0, 1);
        CHECK.due("open of RFC 8032's first key", Bytes.result(x),
                Bytes.ofHex("d75a980182b10ab7d54bfed3c964073a0ee172f3daa62325af021a68f707511a"));
        x.open(1, 0);
        CHECK.due("open of RFC 7748's second key", Bytes.result(x),
                Bytes.ofHex("de9edb7d7b7dc1b4d35b61c2ece435373f8343c85b78674dadfc7e146f882b4f"));
    }

    private static void openIsRefused(int key, int shape, Class<? extends RuntimeException> want) {
        CHECK.dueRefusal("open(" + key + ", " + shape + ")", () -> Made.with(2, 20), want, x -> x.open(key, shape));
    }

    private static void openIsRefusedWithoutTheKey() {
        for (int key : new int[] {-1, 2, 99, 100, 256, Integer.MIN_VALUE, Integer.MAX_VALUE}) {
            openIsRefused(key, 0, NoSuchElementException.class);
            openIsRefused(key, 1, NoSuchElementException.class);
        }
        CHECK.dueRefusal("open(100, 0) with 100", () -> Made.with(100, 0), NoSuchElementException.class,
                x -> x.open(100, 0));
    }

    private static void openIsRefusedForAnotherShape() {
        for (int shape : new int[] {-1, 2, 3, 256, 257, Integer.MIN_VALUE, Integer.MAX_VALUE}) {
            openIsRefused(1, shape, IllegalArgumentException.class);
        }
    }

    private static void aMissingKeyIsToldBeforeAnotherShape() {
        openIsRefused(-1, -1, NoSuchElementException.class);
        openIsRefused(2, 2, NoSuchElementException.class);
    }
}
