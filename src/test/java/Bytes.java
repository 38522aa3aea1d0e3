import java.math.BigInteger;
import java.nio.ByteBuffer;
import java.util.Arrays;
import java.util.HexFormat;
import java.util.Random;

/** Rows of bytes for the tests, and their way to the TAPE and from THE RESULT. */
final class Bytes {
    private Bytes() {
    }

    static byte[] ofHex(String hex) {
        return HexFormat.of().parseHex(hex);
    }

    static String toHex(byte[] bytes) {
        return HexFormat.of().formatHex(bytes);
    }

    static byte[] random(Random random, int length) {
        byte[] bytes = new byte[length];
        random.nextBytes(bytes);
        return bytes;
    }

    /** The number in 32 bytes, the lowest first. */
    static byte[] ofNumber(BigInteger number) {
        byte[] bytes = new byte[32];
        for (int i = 0; i < 32; i++) {
            bytes[i] = number.shiftRight(8 * i).byteValue();
        }
        return bytes;
    }

    static BigInteger toNumber(byte[] bytes) {
        byte[] turned = new byte[bytes.length];
        for (int i = 0; i < bytes.length; i++) {
            turned[i] = bytes[bytes.length - 1 - i];
        }
        return new BigInteger(1, turned);
    }

    static byte[] join(byte[]... parts) {
        byte[] joined = new byte[0];
        for (byte[] part : parts) {
            int start = joined.length;
            joined = Arrays.copyOf(joined, start + part.length);
            System.arraycopy(part, 0, joined, start, part.length);
        }
        return joined;
    }

    static byte[] flipped(byte[] bytes, int bit) {
        byte[] other = bytes.clone();
        other[bit / 8] ^= (byte) (1 << bit % 8);
        return other;
    }

    /** Brings just these bytes to the end of the TAPE. */
    static void feed(CurveKeys x, byte[] bytes) {
        int due = x.count(0) + bytes.length;
        ByteBuffer padded = ByteBuffer.wrap(Arrays.copyOf(bytes, bytes.length + 20));
        for (int at = 0; at < bytes.length; at += 20) {
            x.feed(padded.getInt(at), padded.getInt(at + 4), padded.getInt(at + 8),
                    padded.getInt(at + 12), padded.getInt(at + 16));
        }
        x.end(due);
    }

    static int makeKey(CurveKeys x, byte[] secret) {
        feed(x, secret);
        return x.key();
    }

    static void setMessage(CurveKeys x, byte[] message) {
        feed(x, message);
        x.message();
    }

    static int verify(CurveKeys x, byte[] publicKey, byte[] signature) {
        feed(x, join(publicKey, signature));
        return x.verify();
    }

    static byte[] result(CurveKeys x) {
        byte[] bytes = new byte[x.count(3)];
        for (int i = 0; i < bytes.length; i++) {
            bytes[i] = (byte) x.result(i);
        }
        return bytes;
    }

    /** The face never shows the TAPE's bytes, but what a key signs depends on each of them. */
    static byte[] signatureOfTape(CurveKeys x, int key) {
        x.message();
        x.sign(key);
        return result(x);
    }
}
