import java.math.BigInteger;
import java.nio.ByteBuffer;
import java.util.ArrayList;
import java.util.Arrays;
import java.util.List;
import java.util.NoSuchElementException;

/** The document's promises once more, in the plainest way: rows are copied, and the Reference does the sums. */
final class Model {
    private final List<byte[]> keys = new ArrayList<>();
    private final int[] counts = new int[10];
    private byte[] tape = new byte[0];
    private byte[] text = new byte[0];
    private byte[] shown = new byte[0];

    int feed(int... numbers) {
        if (tape.length + 20 > 65536) {
            throw new IllegalStateException();
        }
        for (int number : numbers) {
            tape = Bytes.join(tape, ByteBuffer.allocate(4).putInt(number).array());
        }
        return tape.length;
    }

    int end(int n) {
        if (n < 0 || n > tape.length) {
            throw new IllegalArgumentException();
        }
        tape = Arrays.copyOf(tape, n);
        return n;
    }

    int key() {
        wantTape(32);
        if (keys.size() == 100) {
            throw new IllegalStateException();
        }
        keys.add(takeTape());
        return keys.size() - 1;
    }

    void open(int key, int shape) {
        wantKey(key);
        if (shape != 0 && shape != 1) {
            throw new IllegalArgumentException();
        }
        shown = shape == 0
                ? Reference.x25519(keys.get(key), Bytes.ofNumber(Reference.number(9)))
                : Reference.publicKey(keys.get(key));
    }

    boolean agree(int key) {
        wantKey(key);
        wantTape(32);
        shown = Reference.x25519(keys.get(key), takeTape());
        boolean zero = Arrays.equals(shown, new byte[32]);
        counts[9] += zero ? 1 : 0;
        return !zero;
    }

    int message() {
        text = takeTape();
        return text.length;
    }

    void sign(int key) {
        wantKey(key);
        shown = Reference.sign(keys.get(key), text);
        counts[4]++;
    }

    int verify() {
        wantTape(96);
        byte[] claim = takeTape();
        int verdict = Reference.verify(Arrays.copyOf(claim, 32), Arrays.copyOfRange(claim, 32, 96), text);
        counts[5 + verdict]++;
        return verdict;
    }

    boolean point() {
        wantTape(32);
        BigInteger[] found = Reference.decode(takeTape());
        if (found != null) {
            shown = Bytes.ofNumber(found[0]);
        }
        return found != null;
    }

    int back(int at, int with) {
        if (at != -1) {
            result(at);
        }
        if (tape.length + shown.length > 65536) {
            throw new IllegalStateException();
        }
        byte[] copy = shown.clone();
        if (at != -1) {
            copy[at] ^= (byte) with;
        }
        tape = Bytes.join(tape, copy);
        return tape.length;
    }

    int result(int i) {
        if (i < 0 || i >= shown.length) {
            throw new IndexOutOfBoundsException();
        }
        return shown[i] & 255;
    }

    int count(int what) {
        counts[0] = tape.length;
        counts[1] = keys.size();
        counts[2] = text.length;
        counts[3] = shown.length;
        return what < 0 || what > 9 ? -1 : counts[what];
    }

    private byte[] takeTape() {
        byte[] taken = tape;
        tape = new byte[0];
        return taken;
    }

    private void wantTape(int length) {
        if (tape.length != length) {
            throw new IllegalArgumentException();
        }
    }

    private void wantKey(int key) {
        if (key < 0 || key >= keys.size()) {
            throw new NoSuchElementException();
        }
    }
}
