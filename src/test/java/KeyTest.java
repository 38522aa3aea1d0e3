import java.util.NoSuchElementException;
import java.util.Random;

/** Promises 4 and 5: key and open. */
public final class KeyTest {
    private static final Check CHECK = new Check();

    public static void main(String[] args) {
        keysAreNumberedFrom0();
        keyWantsJust32Bytes();
        atMost100Keys();
        openShowsBothShapes();
        openOfStandardVectors();
        openRefusesWrongArguments();
        CHECK.finish();
    }

    private static void keysAreNumberedFrom0() {
        CurveKeys x = new CurveKeys();
        for (int i = 0; i < 3; i++) {
            Bytes.feed(x, new byte[32]);
            CHECK.due("key()", x.key(), i);
            CHECK.due("count(0) after key", x.count(0), 0);
            CHECK.due("count(1) after key", x.count(1), i + 1);
        }
    }

    private static void keyWantsJust32Bytes() {
        for (int length : new int[] {0, 1, 31, 33, 64}) {
            CurveKeys x = new CurveKeys();
            Bytes.feed(x, new byte[length]);
            CHECK.dueThrow("key() of " + length + " bytes", x, IllegalArgumentException.class, () -> x.key());
        }
    }

    private static void atMost100Keys() {
        CurveKeys x = new CurveKeys();
        for (int i = 0; i < 100; i++) {
            CHECK.due("key()", Bytes.makeKey(x, Bytes.ofNumber(Reference.number(i))), i);
        }
        CHECK.dueThrow("key() of 0 bytes with 100", x, IllegalArgumentException.class, () -> x.key());
        Bytes.feed(x, new byte[32]);
        CHECK.dueThrow("key() with 100", x, IllegalStateException.class, () -> x.key());
        Bytes.feed(x, new byte[1]);
        CHECK.dueThrow("key() of 33 bytes with 100", x, IllegalArgumentException.class, () -> x.key());
        x.open(99, 0);
        byte[] last = Bytes.ofNumber(Reference.number(99));
        byte[] nine = Bytes.ofNumber(Reference.number(9));
        CHECK.due("open(99, 0)", Bytes.result(x), Reference.x25519(last, nine));
    }

    /** Bits that both shapes cut off or set must not matter or must, just as the standards say. */
    private static void openShowsBothShapes() {
        CurveKeys x = new CurveKeys();
        Random random = new Random(5);
        byte[][] secrets = new byte[8][];
        byte[] ones = Bytes.ofNumber(Reference.ONE.shiftLeft(256).subtract(Reference.ONE));
        for (int i = 0; i < secrets.length; i++) {
            secrets[i] = i == 0 ? new byte[32] : i == 1 ? ones : Bytes.random(random, 32);
            Bytes.makeKey(x, secrets[i]);
        }
        byte[] nine = Bytes.ofNumber(Reference.number(9));
        for (int i = secrets.length - 1; i >= 0; i--) {
            x.open(i, 0);
            CHECK.due("open(" + i + ", 0)", Bytes.result(x), Reference.x25519(secrets[i], nine));
            x.open(i, 1);
            CHECK.due("open(" + i + ", 1)", Bytes.result(x), Reference.publicKey(secrets[i]));
            x.open(i, 1);
            CHECK.due("open(" + i + ", 1) again", Bytes.result(x), Reference.publicKey(secrets[i]));
        }
        x.sign(0);
        x.open(0, 0);
        CHECK.due("count(3) of open after sign", x.count(3), 32);
    }

    private static void openOfStandardVectors() {
        CurveKeys x = new CurveKeys();
        Bytes.makeKey(x, Bytes.ofHex("9d61b19deffd5a60ba844af492ec2cc44449c5697b326919703bac031cae7f60"));
        Bytes.makeKey(x, Bytes.ofHex("5dab087e624a8a4b79e17f8b83800ee66f3bb1292618b6fd1c2f8b27ff88e0eb"));
        x.open(0, 1);
        CHECK.due("open of RFC 8032's first key", Bytes.result(x),
                Bytes.ofHex("d75a980182b10ab7d54bfed3c964073a0ee172f3daa62325af021a68f707511a"));
        x.open(1, 0);
        CHECK.due("open of RFC 7748's second key", Bytes.result(x),
                Bytes.ofHex("de9edb7d7b7dc1b4d35b61c2ece435373f8343c85b78674dadfc7e146f882b4f"));
    }

    private static void openRefusesWrongArguments() {
        CurveKeys x = new CurveKeys();
        Bytes.makeKey(x, new byte[32]);
        x.feed(1, 2, 3, 4, 5);
        for (int key : new int[] {-1, 1, 99, 100, Integer.MIN_VALUE, Integer.MAX_VALUE}) {
            CHECK.dueThrow("open(" + key + ", 0)", x, NoSuchElementException.class, () -> opened(x, key, 0));
            CHECK.dueThrow("open(" + key + ", 2)", x, NoSuchElementException.class, () -> opened(x, key, 2));
        }
        for (int shape : new int[] {-1, 2, 3, Integer.MIN_VALUE, Integer.MAX_VALUE}) {
            CHECK.dueThrow("open(0, " + shape + ")", x, IllegalArgumentException.class, () -> opened(x, 0, shape));
        }
        x.open(0, 1);
        CHECK.due("count(0) after open", x.count(0), 20);
    }

    private static int opened(CurveKeys x, int key, int shape) {
        x.open(key, shape);
        return 0;
    }
}
