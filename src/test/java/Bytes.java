import java.math.BigInteger;
import java.nio.ByteBuffer;
import java.util.Arrays;
import java.util.HexFormat;
import java.util.Random;

/** Rows of bytes for the tests, and their way to the TAPE and from THE RESULT. */
final class Bytes {
    private Bytes() {
    }

    static byte[] ofHex(String hex) {
        return HexFormat.of().parseHex(hex);
    }

    static String toHex(byte[] bytes) {
        return HexFormat.of().formatHex(bytes);
    }

    static byte[] random(Random random, int length) {
        byte[] bytes = new byte[length];
        random.nextBytes(bytes);
        return bytes;
    }

    /** The number in 32 bytes, the lowest first. */
    static byte[] ofNumber(BigInteger number) {
        byte[] bytes = new byte[32];
        for (int i = 0; i < 32; i++) {
            bytes[i] = number.shiftRight(8 * i).byteValue();
        }
        return bytes;
    }

    static BigInteger toNumber(byte[] bytes) {
        byte[] turned = new byte[bytes.length];
        for (int i = 0; i < bytes.length; i++) {
            turned[i] = bytes[bytes.length - 1 - i];
        }
        return new BigInteger(1, turned);
    }

    static byte[] join(byte[]... parts) {
        byte[] joined = new byte[0];
        for (byte[] part : parts) {
            int start = joined.length;
            joined = Arrays.copyOf(joined, start + part.length);
            System.arraycopy(part, 0, joined, start, part.length);
        }
        return joined;
    }

    static byte[] flipped(byte[] bytes, int bit) {
        byte[] other = bytes.clone();
        other[bit / 8] ^= (byte) (1 << bit % 8);
        return other;
    }

    /** Brings just these bytes to the end of the TAPE, also where they fill it: the last 20 of them go in one call. */
    static void feed(CurveKeys x, byte[] bytes) {
        int start = x.count(0);
        int length = bytes.length;
        for (int at = 0; at + 20 <= length; at += 20) {
            feed20(x, bytes, at);
        }
        if (length >= 20) {
            x.end(start + length - 20);
            feed20(x, bytes, length - 20);
        } else if (length > 0) {
            feed20(x, Arrays.copyOf(bytes, 20), 0);
            x.end(start + length);
        }
    }

    private static void feed20(CurveKeys x, byte[] bytes, int at) {
        ByteBuffer numbers = ByteBuffer.wrap(bytes, at, 20);
        x.feed(numbers.getInt(), numbers.getInt(), numbers.getInt(), numbers.getInt(), numbers.getInt());
    }

    static int makeKey(CurveKeys x, byte[] secret) {
        feed(x, secret);
        return x.key();
    }

    static void setMessage(CurveKeys x, byte[] message) {
        feed(x, message);
        x.message();
    }

    static int verify(CurveKeys x, byte[] publicKey, byte[] signature) {
        feed(x, join(publicKey, signature));
        return x.verify();
    }

    static byte[] result(CurveKeys x) {
        byte[] bytes = new byte[x.count(3)];
        for (int i = 0; i < bytes.length; i++) {
            bytes[i] = (byte) x.result(i);
        }
        return bytes;
    }

    /** The face never shows the TAPE's bytes, but what a key signs depends on each of them. */
    static byte[] signatureOfTape(CurveKeys x, int key) {
        x.message();
        x.sign(key);
        return result(x);
    }
}
