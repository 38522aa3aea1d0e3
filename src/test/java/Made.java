import java.util.Random;

/** Objects in known states: made twice in the same way, they hold the same. */
final class Made {
    static final byte[] MESSAGE = {3, 1, 2};

    private Made() {
    }

    static byte[] secret(int key) {
        return Bytes.random(new Random(1000 + key), 32);
    }

    static byte[] tape(int length) {
        return Bytes.random(new Random(length), length);
    }

    /** So many KEYS, a TAPE of so many bytes, THE MESSAGE and, if there is a KEY, the first one's signature. */
    static CurveKeys with(int keys, int tapeLength) {
        CurveKeys x = new CurveKeys();
        Bytes.setMessage(x, MESSAGE);
        for (int key = 0; key < keys; key++) {
            Bytes.makeKey(x, secret(key));
        }
        if (keys > 0) {
            x.sign(0);
        }
        Bytes.feed(x, tape(tapeLength));
        return x;
    }

    /** THE RESULT has 32 bytes then. */
    static CurveKeys opened(int tapeLength) {
        CurveKeys x = with(2, tapeLength);
        x.open(1, 1);
        return x;
    }
}
