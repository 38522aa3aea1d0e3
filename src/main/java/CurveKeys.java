import java.util.Arrays;
import java.util.NoSuchElementException;

/** Keys on one curve in its two shapes: secrets that two sides agree on (X25519), and signatures (Ed25519). */
public final class CurveKeys {
    private static final int TAPE_LIMIT = 65536;
    private static final int KEY_LIMIT = 100;
    private static final int KEY_BYTES = 32;
    private static final int SIGNATURE_BYTES = 64;
    private static final int FEED_BYTES = 20;

    private static final int SHAPE_AGREE = 0;
    private static final int SHAPE_SIGN = 1;

    private static final int GOOD = 0;
    private static final int S_TOO_LARGE = 1;
    private static final int NO_POINT = 2;
    private static final int NOT_GOOD = 3;

    private final Key[] keys;
    private final byte[] result;
    private final int[] verdicts;
    private final Ladder ladder;
    private final Edwards edwards;
    private final Signatures signatures;
    private Row tape;
    private Row message;
    private int keyCount;
    private int resultLength;
    private int signed;
    private int zeroAgreements;

    public CurveKeys() {
        Field field = new Field();
        keys = new Key[KEY_LIMIT];
        result = new byte[SIGNATURE_BYTES];
        verdicts = new int[4];
        ladder = new Ladder(field);
        edwards = new Edwards(field);
        signatures = new Signatures(edwards);
        tape = new Row();
        message = new Row();
    }

    public int feed(int a, int b, int c, int d, int e) throws IllegalStateException {
        if (!tape.hasRoomFor(FEED_BYTES)) {
            throw new IllegalStateException("the tape has no room for 20 bytes");
        }
        tape.appendNumber(a);
        tape.appendNumber(b);
        tape.appendNumber(c);
        tape.appendNumber(d);
        tape.appendNumber(e);
        return tape.length;
    }

    public int end(int n) throws IllegalArgumentException {
        if (n < 0 || n > tape.length) {
            throw new IllegalArgumentException("the tape has not so many bytes");
        }
        tape.length = n;
        return n;
    }

    public int key() throws IllegalArgumentException, IllegalStateException {
        requireTape(KEY_BYTES);
        if (keyCount >= KEY_LIMIT) {
            throw new IllegalStateException("there are 100 keys");
        }
        Key made = new Key();
        System.arraycopy(tape.bytes, 0, made.secret, 0, KEY_BYTES);
        keys[keyCount] = made;
        keyCount++;
        tape.length = 0;
        return keyCount - 1;
    }

    public void open(int key, int shape) throws NoSuchElementException, IllegalArgumentException {
        Key opened = existingKey(key);
        if (shape != SHAPE_AGREE && shape != SHAPE_SIGN) {
            throw new IllegalArgumentException("no such shape");
        }
        if (shape == SHAPE_AGREE) {
            ladder.writePublicKey(result, opened.secret);
        } else {
            signatures.makeReady(opened);
            System.arraycopy(opened.publicKey, 0, result, 0, KEY_BYTES);
        }
        resultLength = KEY_BYTES;
    }

    public boolean agree(int key) throws NoSuchElementException, IllegalArgumentException {
        Key mine = existingKey(key);
        requireTape(KEY_BYTES);
        ladder.writeProduct(result, mine.secret, tape.bytes);
        resultLength = KEY_BYTES;
        tape.length = 0;
        boolean agreed = !isZeroStart(result);
        if (!agreed) {
            zeroAgreements++;
        }
        return agreed;
    }

    public int message() {
        Row taken = tape;
        tape = message;
        tape.length = 0;
        message = taken;
        return message.length;
    }

    public void sign(int key) throws NoSuchElementException {
        Key signer = existingKey(key);
        signatures.makeReady(signer);
        signatures.writeSignature(result, signer, message);
        resultLength = SIGNATURE_BYTES;
        signed++;
    }

    public int verify() throws IllegalArgumentException {
        requireTape(KEY_BYTES + SIGNATURE_BYTES);
        int verdict = signatures.judge(tape.bytes, message);
        tape.length = 0;
        verdicts[verdict]++;
        return verdict;
    }

    public boolean point() throws IllegalArgumentException {
        requireTape(KEY_BYTES);
        boolean isPoint = edwards.find(tape.bytes);
        tape.length = 0;
        if (isPoint) {
            edwards.writeFoundX(result);
            resultLength = KEY_BYTES;
        }
        return isPoint;
    }

    public int back(int at, int with) throws IndexOutOfBoundsException, IllegalStateException {
        if (at < -1 || at >= resultLength) {
            throw new IndexOutOfBoundsException("the result has no such byte");
        }
        if (!tape.hasRoomFor(resultLength)) {
            throw new IllegalStateException("the tape has no room for the result");
        }
        int start = tape.length;
        tape.append(result, resultLength);
        if (at >= 0) {
            tape.bytes[start + at] ^= (byte) with;
        }
        return tape.length;
    }

    public int result(int i) throws IndexOutOfBoundsException {
        if (i < 0 || i >= resultLength) {
            throw new IndexOutOfBoundsException("the result has no such byte");
        }
        return result[i] & 255;
    }

    public int count(int what) {
        switch (what) {
            case 0:
                return tape.length;
            case 1:
                return keyCount;
            case 2:
                return message.length;
            case 3:
                return resultLength;
            case 4:
                return signed;
            case 5:
            case 6:
            case 7:
            case 8:
                return verdicts[what - 5];
            case 9:
                return zeroAgreements;
            default:
                return -1;
        }
    }

    private Key existingKey(int number) {
        if (number < 0 || number >= keyCount) {
            throw new NoSuchElementException("no such key");
        }
        return keys[number];
    }

    private void requireTape(int length) {
        if (tape.length != length) {
            throw new IllegalArgumentException("the tape has another length");
        }
    }

    /** Whether the first 32 bytes are all 0. */
    private static boolean isZeroStart(byte[] bytes) {
        int all = 0;
        for (int i = 0; i < KEY_BYTES; i++) {
            all |= bytes[i];
        }
        return all == 0;
    }

    /** Whether the first 32 bytes of both rows are the same. */
    private static boolean isSameStart(byte[] one, byte[] other) {
        int differing = 0;
        for (int i = 0; i < KEY_BYTES; i++) {
            differing |= one[i] ^ other[i];
        }
        return differing == 0;
    }

    /** Both standards shape a secret alike before they multiply by it. */
    private static void clamp(byte[] scalar) {
        scalar[0] &= (byte) 248;
        scalar[31] &= (byte) 127;
        scalar[31] |= (byte) 64;
    }

    /** A row of bytes that grows up to the tape's limit, so that a new object stays small. */
    private static final class Row {
        private static final int FIRST_ROOM = 1024;

        private byte[] bytes = new byte[FIRST_ROOM];
        private int length;

        boolean hasRoomFor(int more) {
            return length + more <= TAPE_LIMIT;
        }

        void appendNumber(int number) {
            growBy(4);
            bytes[length] = (byte) (number >> 24);
            bytes[length + 1] = (byte) (number >> 16);
            bytes[length + 2] = (byte) (number >> 8);
            bytes[length + 3] = (byte) number;
            length += 4;
        }

        void append(byte[] from, int count) {
            growBy(count);
            System.arraycopy(from, 0, bytes, length, count);
            length += count;
        }

        /** Doubling is enough: no call adds more than 64 bytes. */
        private void growBy(int more) {
            if (length + more > bytes.length) {
                bytes = Arrays.copyOf(bytes, 2 * bytes.length);
            }
        }
    }

    /** A secret, and what signing needs of it, which is worked out once and kept: each signature asks for it. */
    private static final class Key {
        private final byte[] secret = new byte[KEY_BYTES];
        private final byte[] scalar = new byte[KEY_BYTES];
        private final byte[] prefix = new byte[KEY_BYTES];
        private final byte[] publicKey = new byte[KEY_BYTES];
        private boolean ready;
    }

    /**
     * Numbers modulo 2^255 - 19 in ten signed limbs of 26 and 25 bits in turn, the lowest first.
     * times, square and scale leave limbs of little more than 25 and 24 bits; sums and differences
     * of up to four such numbers may be multiplied without overflow of a long.
     */
    private static final class Field {
        private static final int LIMBS = 10;
        private static final long HALF_26 = 1L << 25;
        private static final long HALF_25 = 1L << 24;
        private static final int[] FIRST_BIT = {0, 26, 51, 77, 102, 128, 153, 179, 204, 230};

        private final long[] eleven = new long[LIMBS];
        private final long[] ten = new long[LIMBS];
        private final long[] fifty = new long[LIMBS];
        private final long[] ones = new long[LIMBS];
        private final long[] first = new long[LIMBS];
        private final long[] second = new long[LIMBS];
        private final long[] spare = new long[LIMBS];

        static void set(long[] h, long value) {
            Arrays.fill(h, 0L);
            h[0] = value;
        }

        static void copy(long[] h, long[] f) {
            System.arraycopy(f, 0, h, 0, LIMBS);
        }

        static void add(long[] h, long[] f, long[] g) {
            for (int i = 0; i < LIMBS; i++) {
                h[i] = f[i] + g[i];
            }
        }

        static void subtract(long[] h, long[] f, long[] g) {
            for (int i = 0; i < LIMBS; i++) {
                h[i] = f[i] - g[i];
            }
        }

        static void negate(long[] h, long[] f) {
            for (int i = 0; i < LIMBS; i++) {
                h[i] = -f[i];
            }
        }

        static void scale(long[] h, long[] f, long factor) {
            for (int i = 0; i < LIMBS; i++) {
                h[i] = f[i] * factor;
            }
            carry(h);
        }

        /** Two odd limbs meet half a bit above their place, so one of them comes doubled (e1 to e9). */
        static void times(long[] h, long[] f, long[] g) {
            long f0 = f[0], f1 = f[1], f2 = f[2], f3 = f[3], f4 = f[4];
            long f5 = f[5], f6 = f[6], f7 = f[7], f8 = f[8], f9 = f[9];
            long g0 = g[0], g1 = g[1], g2 = g[2], g3 = g[3], g4 = g[4];
            long g5 = g[5], g6 = g[6], g7 = g[7], g8 = g[8], g9 = g[9];
            long e1 = 2 * f1, e3 = 2 * f3, e5 = 2 * f5, e7 = 2 * f7, e9 = 2 * f9;
            h[0] = f0 * g0
                    + 19 * (e1 * g9 + f2 * g8 + e3 * g7 + f4 * g6 + e5 * g5 + f6 * g4 + e7 * g3 + f8 * g2 + e9 * g1);
            h[1] = f0 * g1 + f1 * g0
                    + 19 * (f2 * g9 + f3 * g8 + f4 * g7 + f5 * g6 + f6 * g5 + f7 * g4 + f8 * g3 + f9 * g2);
            h[2] = f0 * g2 + e1 * g1 + f2 * g0
                    + 19 * (e3 * g9 + f4 * g8 + e5 * g7 + f6 * g6 + e7 * g5 + f8 * g4 + e9 * g3);
            h[3] = f0 * g3 + f1 * g2 + f2 * g1 + f3 * g0
                    + 19 * (f4 * g9 + f5 * g8 + f6 * g7 + f7 * g6 + f8 * g5 + f9 * g4);
            h[4] = f0 * g4 + e1 * g3 + f2 * g2 + e3 * g1 + f4 * g0
                    + 19 * (e5 * g9 + f6 * g8 + e7 * g7 + f8 * g6 + e9 * g5);
            h[5] = f0 * g5 + f1 * g4 + f2 * g3 + f3 * g2 + f4 * g1 + f5 * g0
                    + 19 * (f6 * g9 + f7 * g8 + f8 * g7 + f9 * g6);
            h[6] = f0 * g6 + e1 * g5 + f2 * g4 + e3 * g3 + f4 * g2 + e5 * g1 + f6 * g0
                    + 19 * (e7 * g9 + f8 * g8 + e9 * g7);
            h[7] = f0 * g7 + f1 * g6 + f2 * g5 + f3 * g4 + f4 * g3 + f5 * g2 + f6 * g1 + f7 * g0
                    + 19 * (f8 * g9 + f9 * g8);
            h[8] = f0 * g8 + e1 * g7 + f2 * g6 + e3 * g5 + f4 * g4 + e5 * g3 + f6 * g2 + e7 * g1 + f8 * g0
                    + 19 * (e9 * g9);
            h[9] = f0 * g9 + f1 * g8 + f2 * g7 + f3 * g6 + f4 * g5 + f5 * g4 + f6 * g3 + f7 * g2 + f8 * g1 + f9 * g0;
            carry(h);
        }

        /** The product of a number with itself has each mixed term twice: half the work of times. */
        static void square(long[] h, long[] f) {
            long f0 = f[0], f1 = f[1], f2 = f[2], f3 = f[3], f4 = f[4];
            long f5 = f[5], f6 = f[6], f7 = f[7], f8 = f[8], f9 = f[9];
            long d0 = 2 * f0, d1 = 2 * f1, d2 = 2 * f2, d3 = 2 * f3, d4 = 2 * f4;
            long d5 = 2 * f5, d6 = 2 * f6, d7 = 2 * f7, d8 = 2 * f8, d9 = 2 * f9;
            h[0] = f0 * f0 + 19 * (d1 * d9 + d2 * f8 + d3 * d7 + d4 * f6 + f5 * d5);
            h[1] = d0 * f1 + 19 * (d2 * f9 + d3 * f8 + d4 * f7 + d5 * f6);
            h[2] = d0 * f2 + d1 * f1 + 19 * (d3 * d9 + d4 * f8 + d5 * d7 + f6 * f6);
            h[3] = d0 * f3 + d1 * f2 + 19 * (d4 * f9 + d5 * f8 + d6 * f7);
            h[4] = d0 * f4 + d1 * d3 + f2 * f2 + 19 * (d5 * d9 + d6 * f8 + f7 * d7);
            h[5] = d0 * f5 + d1 * f4 + d2 * f3 + 19 * (d6 * f9 + d7 * f8);
            h[6] = d0 * f6 + d1 * d5 + d2 * f4 + d3 * f3 + 19 * (d7 * d9 + f8 * f8);
            h[7] = d0 * f7 + d1 * f6 + d2 * f5 + d3 * f4 + 19 * (d8 * f9);
            h[8] = d0 * f8 + d1 * d7 + d2 * f6 + d3 * d5 + f4 * f4 + 19 * (f9 * d9);
            h[9] = d0 * f9 + d1 * f8 + d2 * f7 + d3 * f6 + d4 * f5;
            carry(h);
        }

        /** Carries round to the nearest, so that limbs stay small on both sides of 0; the top comes back times 19. */
        private static void carry(long[] h) {
            long carried = 0;
            for (int i = 0; i < LIMBS; i += 2) {
                long even = h[i] + carried;
                carried = (even + HALF_26) >> 26;
                h[i] = even - (carried << 26);
                long odd = h[i + 1] + carried;
                carried = (odd + HALF_25) >> 25;
                h[i + 1] = odd - (carried << 25);
            }
            long lowest = h[0] + 19 * carried;
            carried = (lowest + HALF_26) >> 26;
            h[0] = lowest - (carried << 26);
            h[1] += carried;
        }

        private static int widthOf(int limb) {
            return 26 - (limb & 1);
        }

        /** Reads 255 bits: the highest bit of the first 32 bytes is left out. */
        static void read(long[] h, byte[] from) {
            for (int i = 0; i < LIMBS; i++) {
                int firstByte = FIRST_BIT[i] >> 3;
                int lastByte = Math.min(firstByte + 4, KEY_BYTES - 1);
                long bits = 0;
                for (int j = lastByte; j >= firstByte; j--) {
                    bits = bits << 8 | from[j] & 255;
                }
                h[i] = bits >> (FIRST_BIT[i] & 7) & (1L << widthOf(i)) - 1;
            }
        }

        /** Writes the one form below 2^255 - 19. */
        void write(byte[] to, long[] f) {
            settle(f);
            long bits = 0;
            int held = 0;
            int at = 0;
            for (int i = 0; i < LIMBS; i++) {
                bits |= spare[i] << held;
                held += widthOf(i);
                while (held >= 8) {
                    to[at] = (byte) bits;
                    at++;
                    bits >>= 8;
                    held -= 8;
                }
            }
            to[at] = (byte) bits;
        }

        /** Leaves the one form in spare: after a carry only the sign is open, and 2^255 - 19 mends it. */
        private void settle(long[] f) {
            System.arraycopy(f, 0, spare, 0, LIMBS);
            carry(spare);
            long sign = 0;
            for (int i = 0; i < LIMBS; i++) {
                sign = (spare[i] + sign) >> widthOf(i);
            }
            long carried = 19 * sign;
            for (int i = 0; i < LIMBS; i++) {
                long limb = spare[i] + carried;
                carried = limb >> widthOf(i);
                spare[i] = limb - (carried << widthOf(i));
            }
        }

        /** f to the power 2^255 - 21, which is 1 / f, and 0 for 0. */
        void invert(long[] h, long[] f) {
            raiseToOnes(f);
            stretch(h, ones, 5, eleven);
        }

        /** f to the power 2^252 - 3, out of which square roots are made. */
        void raiseForRoot(long[] h, long[] f) {
            raiseToOnes(f);
            stretch(h, ones, 2, f);
        }

        /** Leaves f to the power 2^250 - 1 in ones, and to the power 11 in eleven. */
        private void raiseToOnes(long[] f) {
            square(first, f);
            stretch(second, first, 2, f);
            times(eleven, second, first);
            stretch(first, eleven, 1, second);
            stretch(ten, first, 5, first);
            stretch(first, ten, 10, ten);
            stretch(second, first, 20, first);
            stretch(fifty, second, 10, ten);
            stretch(first, fifty, 50, fifty);
            stretch(second, first, 100, first);
            stretch(ones, second, 50, fifty);
        }

        private void stretch(long[] h, long[] f, int squarings, long[] g) {
            copy(spare, f);
            for (int i = 0; i < squarings; i++) {
                square(spare, spare);
            }
            times(h, spare, g);
        }
    }

    /** X25519: the ladder of RFC 7748 on the Montgomery shape of the curve. */
    private static final class Ladder {
        private static final int TOP_BIT = 254;
        private static final long A24 = 121665;

        private final Field field;
        private final byte[] scalar = new byte[KEY_BYTES];
        private final byte[] nine = new byte[KEY_BYTES];
        private final long[] u = new long[Field.LIMBS];
        private final long[] lowX = new long[Field.LIMBS];
        private final long[] lowZ = new long[Field.LIMBS];
        private final long[] highX = new long[Field.LIMBS];
        private final long[] highZ = new long[Field.LIMBS];
        private final long[] a = new long[Field.LIMBS];
        private final long[] b = new long[Field.LIMBS];
        private final long[] c = new long[Field.LIMBS];
        private final long[] d = new long[Field.LIMBS];

        Ladder(Field field) {
            this.field = field;
            nine[0] = 9;
        }

        void writePublicKey(byte[] to, byte[] secret) {
            writeProduct(to, secret, nine);
        }

        void writeProduct(byte[] to, byte[] secret, byte[] other) {
            System.arraycopy(secret, 0, scalar, 0, KEY_BYTES);
            clamp(scalar);
            Field.read(u, other);
            climb();
            field.invert(lowZ, lowZ);
            Field.times(lowX, lowX, lowZ);
            field.write(to, lowX);
        }

        /** The high point is always the low one and u's together; the bit tells which of them is doubled. */
        private void climb() {
            Field.set(lowX, 1);
            Field.set(lowZ, 0);
            Field.copy(highX, u);
            Field.set(highZ, 1);
            for (int bit = TOP_BIT; bit >= 0; bit--) {
                if ((scalar[bit >> 3] >> (bit & 7) & 1) == 0) {
                    step(lowX, lowZ, highX, highZ);
                } else {
                    step(highX, highZ, lowX, lowZ);
                }
            }
        }

        /** The second point becomes the sum of both, the first one its double. */
        private void step(long[] x, long[] z, long[] sumX, long[] sumZ) {
            Field.add(a, x, z);
            Field.subtract(b, x, z);
            Field.add(c, sumX, sumZ);
            Field.subtract(d, sumX, sumZ);
            Field.times(d, d, a);
            Field.times(c, c, b);
            Field.add(sumX, d, c);
            Field.square(sumX, sumX);
            Field.subtract(sumZ, d, c);
            Field.square(sumZ, sumZ);
            Field.times(sumZ, sumZ, u);
            Field.square(a, a);
            Field.square(b, b);
            Field.times(x, a, b);
            Field.subtract(b, a, b);
            Field.scale(z, b, A24);
            Field.add(z, z, a);
            Field.times(z, z, b);
        }
    }

    /** A point x / z, y / z of the Edwards shape, with t = x y / z. */
    private static final class Point {
        private final long[] x = new long[Field.LIMBS];
        private final long[] y = new long[Field.LIMBS];
        private final long[] z = new long[Field.LIMBS];
        private final long[] t = new long[Field.LIMBS];

        void setNeutral() {
            Field.set(x, 0);
            Field.set(y, 1);
            Field.set(z, 1);
            Field.set(t, 0);
        }

        void setAffine(long[] fromX, long[] fromY) {
            Field.copy(x, fromX);
            Field.copy(y, fromY);
            Field.set(z, 1);
            Field.times(t, fromX, fromY);
        }

        void negate() {
            Field.negate(x, x);
            Field.negate(t, t);
        }
    }

    /** A point in the form in which adding it to another is cheapest. */
    private static final class Addend {
        private final long[] less = new long[Field.LIMBS];
        private final long[] more = new long[Field.LIMBS];
        private final long[] twiceZ = new long[Field.LIMBS];
        private final long[] twiceDT = new long[Field.LIMBS];

        void set(Point p) {
            Field.subtract(less, p.y, p.x);
            Field.add(more, p.y, p.x);
            Field.add(twiceZ, p.z, p.z);
            Field.times(twiceDT, p.t, Edwards.TWICE_CURVE_D);
        }
    }

    /** The Edwards shape of the curve: its points read, written, added and multiplied as RFC 8032 says. */
    private static final class Edwards {
        private static final long[] CURVE_D = {
            56195235, 13857412, 51736253, 6949390, 114729, 24766616, 60832955, 30306712, 48412415, 21499315};
        private static final long[] TWICE_CURVE_D = {
            45281625, 27714825, 36363642, 13898781, 229458, 15978800, 54557047, 27058993, 29715967, 9444199};
        private static final long[] ROOT_OF_MINUS_1 = {
            34513072, 25610706, 9377949, 3500415, 12389472, 33281959, 41962654, 31548777, 326685, 11406482};
        private static final long[] BASE_X = {
            52811034, 25909283, 16144682, 17082669, 27570973, 30858332, 40966398, 8378388, 20764389, 8758491};
        private static final long[] BASE_Y = {
            40265304, 26843545, 13421772, 20132659, 26843545, 6710886, 53687091, 13421772, 40265318, 26843545};
        private static final int MULTIPLES = 16;

        private final Field field;
        private final Point sum = new Point();
        private final Point found = new Point();
        private final Addend[] ofBase = new Addend[MULTIPLES];
        private final Addend[] ofOther = new Addend[MULTIPLES];
        private final byte[] zeroScalar = new byte[KEY_BYTES];
        private final byte[] form = new byte[KEY_BYTES];
        private final long[] a = new long[Field.LIMBS];
        private final long[] b = new long[Field.LIMBS];
        private final long[] c = new long[Field.LIMBS];
        private final long[] d = new long[Field.LIMBS];
        private final long[] e = new long[Field.LIMBS];
        private final long[] f = new long[Field.LIMBS];
        private final long[] g = new long[Field.LIMBS];
        private final long[] h = new long[Field.LIMBS];

        Edwards(Field field) {
            this.field = field;
            for (int i = 0; i < MULTIPLES; i++) {
                ofBase[i] = new Addend();
                ofOther[i] = new Addend();
            }
            found.setAffine(BASE_X, BASE_Y);
            fillMultiples(ofBase, found);
        }

        /** The multiples 1 to 15; that of 0 is never added. */
        private void fillMultiples(Addend[] multiples, Point p) {
            multiples[1].set(p);
            for (int i = 2; i < MULTIPLES; i++) {
                add(p, multiples[1]);
                multiples[i].set(p);
            }
        }

        private void add(Point p, Addend q) {
            Field.subtract(a, p.y, p.x);
            Field.times(a, a, q.less);
            Field.add(b, p.y, p.x);
            Field.times(b, b, q.more);
            Field.times(c, p.t, q.twiceDT);
            Field.times(d, p.z, q.twiceZ);
            Field.subtract(e, b, a);
            Field.subtract(f, d, c);
            Field.add(g, d, c);
            Field.add(h, b, a);
            join(p);
        }

        private void twice(Point p) {
            Field.square(a, p.x);
            Field.square(b, p.y);
            Field.square(c, p.z);
            Field.add(c, c, c);
            Field.add(h, a, b);
            Field.add(e, p.x, p.y);
            Field.square(e, e);
            Field.subtract(e, h, e);
            Field.subtract(g, a, b);
            Field.add(f, c, g);
            join(p);
        }

        private void join(Point p) {
            Field.times(p.x, e, f);
            Field.times(p.y, g, h);
            Field.times(p.t, e, h);
            Field.times(p.z, f, g);
        }

        /** The sum becomes [s]B. */
        void multiplyBase(byte[] s) {
            addUp(s, zeroScalar);
        }

        /** The sum becomes [s]B - [k]A, A being the point that was found last, which is used up. */
        void subtractFromBase(byte[] s, byte[] k) {
            found.negate();
            fillMultiples(ofOther, found);
            addUp(s, k);
        }

        /** Both scalars go four bits at a time, so that they share the doublings. */
        private void addUp(byte[] s, byte[] k) {
            sum.setNeutral();
            for (int place = 2 * KEY_BYTES - 1; place >= 0; place--) {
                twice(sum);
                twice(sum);
                twice(sum);
                twice(sum);
                int digit = digitAt(s, place);
                if (digit != 0) {
                    add(sum, ofBase[digit]);
                }
                int otherDigit = digitAt(k, place);
                if (otherDigit != 0) {
                    add(sum, ofOther[otherDigit]);
                }
            }
        }

        private static int digitAt(byte[] scalar, int place) {
            return scalar[place >> 1] >> 4 * (place & 1) & 15;
        }

        void writeSum(byte[] to) {
            field.invert(a, sum.z);
            Field.times(b, sum.x, a);
            Field.times(c, sum.y, a);
            field.write(form, b);
            field.write(to, c);
            to[KEY_BYTES - 1] |= (byte) (form[0] << 7);
        }

        void writeFoundX(byte[] to) {
            field.write(to, found.x);
        }

        /** Whether the first 32 bytes are a point, which is found then. */
        boolean find(byte[] from) {
            Field.read(g, from);
            if (!isBelowPrime(from)) {
                return false;
            }
            setRatio();
            field.raiseForRoot(e, d);
            Field.times(h, a, c);
            Field.times(h, h, e);
            if (!mendRoot() || !takeSign(from[KEY_BYTES - 1] >> 7 & 1)) {
                return false;
            }
            found.setAffine(h, g);
            return true;
        }

        /** A y that is written back with other bytes was not below 2^255 - 19. */
        private boolean isBelowPrime(byte[] from) {
            field.write(form, g);
            form[KEY_BYTES - 1] |= (byte) (from[KEY_BYTES - 1] & 128);
            return isSameStart(from, form);
        }

        /**
         * x^2 is u / v with u = y^2 - 1 and v = d y^2 + 1, and its root is u v^3 (u v^7)^((p - 5) / 8), if it has one.
         * For y in g, this leaves u in a, v in b, v^3 in c and u v^7 in d.
         */
        private void setRatio() {
            Field.set(d, 1);
            Field.square(c, g);
            Field.times(b, c, CURVE_D);
            Field.subtract(a, c, d);
            Field.add(b, b, d);
            Field.square(c, b);
            Field.times(c, c, b);
            Field.square(d, c);
            Field.times(d, d, b);
            Field.times(d, d, a);
        }

        /** Whether u / v has a root, which is in h then: a root of -u / v there is made into one. */
        private boolean mendRoot() {
            Field.square(c, h);
            Field.times(c, c, b);
            Field.subtract(d, c, a);
            if (isMultipleOfPrime(d)) {
                return true;
            }
            Field.add(d, c, a);
            Field.times(h, h, ROOT_OF_MINUS_1);
            return isMultipleOfPrime(d);
        }

        /** Whether the root in h can have that sign, as 0 cannot; it has it then. */
        private boolean takeSign(int sign) {
            field.write(form, h);
            if (sign == 1 && isZeroStart(form)) {
                return false;
            }
            if ((form[0] & 1) != sign) {
                Field.negate(h, h);
            }
            return true;
        }

        private boolean isMultipleOfPrime(long[] number) {
            field.write(form, number);
            return isZeroStart(form);
        }
    }

    /** SHA-512. */
    private static final class Hash {
        private static final int BLOCK = 128;
        private static final int ROUNDS = 80;
        private static final int LENGTH_AT = 112;
        private static final long[] START = {
            0x6a09e667f3bcc908L, 0xbb67ae8584caa73bL, 0x3c6ef372fe94f82bL, 0xa54ff53a5f1d36f1L,
            0x510e527fade682d1L, 0x9b05688c2b3e6c1fL, 0x1f83d9abfb41bd6bL, 0x5be0cd19137e2179L};
        private static final long[] ROUND_KEYS = {
            0x428a2f98d728ae22L, 0x7137449123ef65cdL, 0xb5c0fbcfec4d3b2fL, 0xe9b5dba58189dbbcL,
            0x3956c25bf348b538L, 0x59f111f1b605d019L, 0x923f82a4af194f9bL, 0xab1c5ed5da6d8118L,
            0xd807aa98a3030242L, 0x12835b0145706fbeL, 0x243185be4ee4b28cL, 0x550c7dc3d5ffb4e2L,
            0x72be5d74f27b896fL, 0x80deb1fe3b1696b1L, 0x9bdc06a725c71235L, 0xc19bf174cf692694L,
            0xe49b69c19ef14ad2L, 0xefbe4786384f25e3L, 0x0fc19dc68b8cd5b5L, 0x240ca1cc77ac9c65L,
            0x2de92c6f592b0275L, 0x4a7484aa6ea6e483L, 0x5cb0a9dcbd41fbd4L, 0x76f988da831153b5L,
            0x983e5152ee66dfabL, 0xa831c66d2db43210L, 0xb00327c898fb213fL, 0xbf597fc7beef0ee4L,
            0xc6e00bf33da88fc2L, 0xd5a79147930aa725L, 0x06ca6351e003826fL, 0x142929670a0e6e70L,
            0x27b70a8546d22ffcL, 0x2e1b21385c26c926L, 0x4d2c6dfc5ac42aedL, 0x53380d139d95b3dfL,
            0x650a73548baf63deL, 0x766a0abb3c77b2a8L, 0x81c2c92e47edaee6L, 0x92722c851482353bL,
            0xa2bfe8a14cf10364L, 0xa81a664bbc423001L, 0xc24b8b70d0f89791L, 0xc76c51a30654be30L,
            0xd192e819d6ef5218L, 0xd69906245565a910L, 0xf40e35855771202aL, 0x106aa07032bbd1b8L,
            0x19a4c116b8d2d0c8L, 0x1e376c085141ab53L, 0x2748774cdf8eeb99L, 0x34b0bcb5e19b48a8L,
            0x391c0cb3c5c95a63L, 0x4ed8aa4ae3418acbL, 0x5b9cca4f7763e373L, 0x682e6ff3d6b2b8a3L,
            0x748f82ee5defb2fcL, 0x78a5636f43172f60L, 0x84c87814a1f0ab72L, 0x8cc702081a6439ecL,
            0x90befffa23631e28L, 0xa4506cebde82bde9L, 0xbef9a3f7b2c67915L, 0xc67178f2e372532bL,
            0xca273eceea26619cL, 0xd186b8c721c0c207L, 0xeada7dd6cde0eb1eL, 0xf57d4f7fee6ed178L,
            0x06f067aa72176fbaL, 0x0a637dc5a2c898a6L, 0x113f9804bef90daeL, 0x1b710b35131c471bL,
            0x28db77f523047d84L, 0x32caab7b40c72493L, 0x3c9ebe0a15c9bebcL, 0x431d67c49c100d4cL,
            0x4cc5d4becb3e42b6L, 0x597f299cfc657e2aL, 0x5fcb6fab3ad6faecL, 0x6c44198c4a475817L};

        private final long[] state = new long[8];
        private final long[] words = new long[ROUNDS];
        private final byte[] block = new byte[BLOCK];
        private int held;
        private int total;

        void begin() {
            System.arraycopy(START, 0, state, 0, 8);
            held = 0;
            total = 0;
        }

        void take(byte[] from, int length) {
            for (int i = 0; i < length; i++) {
                block[held] = from[i];
                held++;
                if (held == BLOCK) {
                    mix();
                    held = 0;
                }
            }
            total += length;
        }

        void finish(byte[] to) {
            block[held] = (byte) 128;
            Arrays.fill(block, held + 1, BLOCK, (byte) 0);
            if (held >= LENGTH_AT) {
                mix();
                Arrays.fill(block, (byte) 0);
            }
            putWord(block, BLOCK - 8, 8L * total);
            mix();
            for (int i = 0; i < 8; i++) {
                putWord(to, 8 * i, state[i]);
            }
        }

        private static void putWord(byte[] to, int at, long word) {
            for (int i = 0; i < 8; i++) {
                to[at + i] = (byte) (word >> 56 - 8 * i);
            }
        }

        private void spreadWords() {
            for (int i = 0; i < 16; i++) {
                long word = 0;
                for (int j = 8 * i; j < 8 * i + 8; j++) {
                    word = word << 8 | block[j] & 255;
                }
                words[i] = word;
            }
            for (int i = 16; i < ROUNDS; i++) {
                long early = words[i - 15];
                long late = words[i - 2];
                long earlyMixed = (early >>> 1 | early << 63) ^ (early >>> 8 | early << 56) ^ early >>> 7;
                long lateMixed = (late >>> 19 | late << 45) ^ (late >>> 61 | late << 3) ^ late >>> 6;
                words[i] = words[i - 16] + earlyMixed + words[i - 7] + lateMixed;
            }
        }

        private void mix() {
            spreadWords();
            long a = state[0], b = state[1], c = state[2], d = state[3];
            long e = state[4], f = state[5], g = state[6], h = state[7];
            for (int i = 0; i < ROUNDS; i++) {
                long eMixed = (e >>> 14 | e << 50) ^ (e >>> 18 | e << 46) ^ (e >>> 41 | e << 23);
                long aMixed = (a >>> 28 | a << 36) ^ (a >>> 34 | a << 30) ^ (a >>> 39 | a << 25);
                long one = h + eMixed + (e & f ^ ~e & g) + ROUND_KEYS[i] + words[i];
                long two = aMixed + (a & b ^ a & c ^ b & c);
                h = g;
                g = f;
                f = e;
                e = d + one;
                d = c;
                c = b;
                b = a;
                a = one + two;
            }
            state[0] += a;
            state[1] += b;
            state[2] += c;
            state[3] += d;
            state[4] += e;
            state[5] += f;
            state[6] += g;
            state[7] += h;
        }
    }

    /** Numbers modulo L, the order of the base, as 32 bytes, the lowest first. */
    private static final class Order {
        private static final long[] L = {
            0xed, 0xd3, 0xf5, 0x5c, 0x1a, 0x63, 0x12, 0x58, 0xd6, 0x9c, 0xf7, 0xa2, 0xde, 0xf9, 0xde, 0x14,
            0, 0, 0, 0, 0, 0, 0, 0, 0, 0, 0, 0, 0, 0, 0, 0x10};
        /** The low part of L, which is L - 2^252, has 16 bytes; four more take up the carry. */
        private static final int FOLDED_BYTES = 20;
        private static final int WIDE = 64;

        private final long[] wide = new long[WIDE];

        static boolean isBelow(byte[] number) {
            for (int i = KEY_BYTES - 1; i >= 0; i--) {
                long difference = (number[i] & 255) - L[i];
                if (difference != 0) {
                    return difference < 0;
                }
            }
            return false;
        }

        /** The remainder by L of a number of 64 bytes. */
        void reduce(byte[] to, byte[] number) {
            for (int i = 0; i < WIDE; i++) {
                wide[i] = number[i] & 255;
            }
            reduceWide(to);
        }

        /**
         * The remainder by 8 L: a point that is no multiple of the base has an order that divides 8 L but not L,
         * and there the hash's number and its remainder by L are not the same factor.
         * As 5 L is 1 modulo 8, the lowest bytes tell how often L was taken away, modulo 8.
         */
        void reduceForAnyPoint(byte[] to, byte[] number) {
            reduce(to, number);
            int times = 5 * (number[0] - to[0]) & 7;
            long carried = 0;
            for (int i = 0; i < KEY_BYTES; i++) {
                carried += (to[i] & 255) + times * L[i];
                to[i] = (byte) carried;
                carried >>= 8;
            }
        }

        /** k a + r. */
        void multiplyAndAdd(byte[] to, byte[] k, byte[] a, byte[] r) {
            Arrays.fill(wide, 0L);
            for (int i = 0; i < KEY_BYTES; i++) {
                wide[i] += r[i] & 255;
                for (int j = 0; j < KEY_BYTES; j++) {
                    wide[i + j] += (k[i] & 255) * (a[j] & 255);
                }
            }
            reduceWide(to);
        }

        private void reduceWide(byte[] to) {
            for (int i = WIDE - 1; i >= KEY_BYTES; i--) {
                foldPlace(i);
            }
            subtractMultiple(wide[KEY_BYTES - 1] >> 4);
            if (wide[KEY_BYTES - 1] < 0) {
                subtractMultiple(-1);
            }
            for (int i = 0; i < KEY_BYTES; i++) {
                to[i] = (byte) wide[i];
            }
        }

        /** 2^256 is 16 L less 16 times the low part of L, so that the place goes over into 32 places lower ones. */
        private void foldPlace(int place) {
            long factor = 16 * wide[place];
            long carried = 0;
            int start = place - KEY_BYTES;
            for (int i = 0; i < FOLDED_BYTES; i++) {
                long sum = wide[start + i] + carried - factor * L[i];
                carried = (sum + 128) >> 8;
                wide[start + i] = sum - (carried << 8);
            }
            wide[start + FOLDED_BYTES] += carried;
            wide[place] = 0;
        }

        /** Takes L away so often; the highest place keeps the sign. */
        private void subtractMultiple(long factor) {
            int highest = KEY_BYTES - 1;
            long carried = 0;
            for (int i = 0; i < highest; i++) {
                long sum = wide[i] + carried - factor * L[i];
                carried = sum >> 8;
                wide[i] = sum & 255;
            }
            wide[highest] += carried - factor * L[highest];
        }
    }

    /** Ed25519 with no context and no hash before. */
    private static final class Signatures {
        private final Edwards edwards;
        private final Hash hash = new Hash();
        private final Order order = new Order();
        private final byte[] digest = new byte[SIGNATURE_BYTES];
        private final byte[] r = new byte[KEY_BYTES];
        private final byte[] k = new byte[KEY_BYTES];
        private final byte[] s = new byte[KEY_BYTES];
        private final byte[] commitment = new byte[KEY_BYTES];
        private final byte[] due = new byte[KEY_BYTES];

        Signatures(Edwards edwards) {
            this.edwards = edwards;
        }

        /** To be called before the key signs or shows its public key. */
        void makeReady(Key key) {
            if (key.ready) {
                return;
            }
            hash.begin();
            hash.take(key.secret, KEY_BYTES);
            hash.finish(digest);
            System.arraycopy(digest, 0, key.scalar, 0, KEY_BYTES);
            System.arraycopy(digest, KEY_BYTES, key.prefix, 0, KEY_BYTES);
            clamp(key.scalar);
            edwards.multiplyBase(key.scalar);
            edwards.writeSum(key.publicKey);
            key.ready = true;
        }

        void writeSignature(byte[] to, Key key, Row message) {
            hash.begin();
            hash.take(key.prefix, KEY_BYTES);
            hash.take(message.bytes, message.length);
            hash.finish(digest);
            order.reduce(r, digest);
            edwards.multiplyBase(r);
            edwards.writeSum(commitment);
            hashChallenge(key.publicKey, message);
            order.reduce(k, digest);
            order.multiplyAndAdd(s, k, key.scalar, r);
            System.arraycopy(commitment, 0, to, 0, KEY_BYTES);
            System.arraycopy(s, 0, to, KEY_BYTES, KEY_BYTES);
        }

        private void hashChallenge(byte[] publicKey, Row message) {
            hash.begin();
            hash.take(commitment, KEY_BYTES);
            hash.take(publicKey, KEY_BYTES);
            hash.take(message.bytes, message.length);
            hash.finish(digest);
        }

        /** The claim is a public key and a signature: 96 bytes. */
        int judge(byte[] claim, Row message) {
            System.arraycopy(claim, KEY_BYTES, commitment, 0, KEY_BYTES);
            System.arraycopy(claim, 2 * KEY_BYTES, s, 0, KEY_BYTES);
            if (!Order.isBelow(s)) {
                return S_TOO_LARGE;
            }
            if (!edwards.find(claim)) {
                return NO_POINT;
            }
            hashChallenge(claim, message);
            order.reduceForAnyPoint(k, digest);
            edwards.subtractFromBase(s, k);
            edwards.writeSum(due);
            return isSameStart(due, commitment) ? GOOD : NOT_GOOD;
        }
    }
}
