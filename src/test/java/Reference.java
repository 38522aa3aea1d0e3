import java.math.BigInteger;
import java.security.MessageDigest;
import java.security.NoSuchAlgorithmException;
import java.util.Arrays;

/** X25519 and Ed25519 once more, slow and plain, with the numbers and the SHA-512 of the Java library. */
final class Reference {
    static final BigInteger ZERO = BigInteger.ZERO;
    static final BigInteger ONE = BigInteger.ONE;
    static final BigInteger TWO = BigInteger.TWO;
    static final BigInteger P = ONE.shiftLeft(255).subtract(number(19));
    static final BigInteger L = ONE.shiftLeft(252).add(new BigInteger("27742317777372353535851937790883648493"));
    static final BigInteger D = number(-121665).multiply(number(121666).modInverse(P)).mod(P);
    static final BigInteger[] BASE = decode(Bytes.ofNumber(number(4).multiply(number(5).modInverse(P)).mod(P)));
    static final BigInteger[] NEUTRAL = {ZERO, ONE};

    private Reference() {
    }

    static BigInteger number(long value) {
        return BigInteger.valueOf(value);
    }

    private static byte[] clamped(byte[] secret) {
        byte[] scalar = Arrays.copyOf(secret, 32);
        scalar[0] &= (byte) 0xf8;
        scalar[31] = (byte) (scalar[31] & 0x7f | 0x40);
        return scalar;
    }

    static byte[] x25519(byte[] secret, byte[] other) {
        BigInteger k = Bytes.toNumber(clamped(secret));
        BigInteger u = Bytes.toNumber(other).clearBit(255).mod(P);
        BigInteger[] low = {ONE, ZERO};
        BigInteger[] high = {u, ONE};
        for (int bit = 254; bit >= 0; bit--) {
            BigInteger[] sum = montgomerySum(low, high, u);
            if (k.testBit(bit)) {
                high = montgomeryDouble(high);
                low = sum;
            } else {
                low = montgomeryDouble(low);
                high = sum;
            }
        }
        return Bytes.ofNumber(low[0].multiply(low[1].modPow(P.subtract(TWO), P)).mod(P));
    }

    private static BigInteger[] montgomerySum(BigInteger[] p, BigInteger[] q, BigInteger difference) {
        BigInteger x = p[0].multiply(q[0]).subtract(p[1].multiply(q[1])).pow(2);
        BigInteger z = p[0].multiply(q[1]).subtract(p[1].multiply(q[0])).pow(2).multiply(difference);
        return new BigInteger[] {x.mod(P), z.mod(P)};
    }

    private static BigInteger[] montgomeryDouble(BigInteger[] p) {
        BigInteger xx = p[0].pow(2);
        BigInteger zz = p[1].pow(2);
        BigInteger xz = p[0].multiply(p[1]);
        BigInteger x = xx.subtract(zz).pow(2);
        BigInteger z = number(4).multiply(xz).multiply(xx.add(number(486662).multiply(xz)).add(zz));
        return new BigInteger[] {x.mod(P), z.mod(P)};
    }

    /** x and y of the point, or null. */
    static BigInteger[] decode(byte[] bytes) {
        BigInteger all = Bytes.toNumber(bytes);
        boolean sign = all.testBit(255);
        BigInteger y = all.clearBit(255);
        if (y.compareTo(P) >= 0) {
            return null;
        }
        BigInteger yy = y.multiply(y);
        BigInteger xx = yy.subtract(ONE).multiply(D.multiply(yy).add(ONE).modInverse(P)).mod(P);
        BigInteger x = root(xx);
        if (x == null || x.signum() == 0 && sign) {
            return null;
        }
        return new BigInteger[] {x.testBit(0) == sign ? x : P.subtract(x).mod(P), y};
    }

    private static BigInteger root(BigInteger square) {
        BigInteger x = square.modPow(P.add(number(3)).shiftRight(3), P);
        if (!x.multiply(x).mod(P).equals(square)) {
            x = x.multiply(TWO.modPow(P.subtract(ONE).shiftRight(2), P)).mod(P);
        }
        return x.multiply(x).mod(P).equals(square) ? x : null;
    }

    static byte[] encode(BigInteger[] p) {
        return Bytes.ofNumber(p[0].testBit(0) ? p[1].setBit(255) : p[1]);
    }

    static BigInteger[] negate(BigInteger[] p) {
        return new BigInteger[] {P.subtract(p[0]).mod(P), p[1]};
    }

    static BigInteger[] add(BigInteger[] p, BigInteger[] q) {
        return affine(addScaled(scaled(p), scaled(q)));
    }

    static BigInteger[] multiply(BigInteger k, BigInteger[] p) {
        BigInteger[] base = scaled(p);
        BigInteger[] sum = scaled(NEUTRAL);
        for (int bit = k.bitLength() - 1; bit >= 0; bit--) {
            sum = addScaled(sum, sum);
            if (k.testBit(bit)) {
                sum = addScaled(sum, base);
            }
        }
        return affine(sum);
    }

    private static BigInteger[] scaled(BigInteger[] p) {
        return new BigInteger[] {p[0], p[1], ONE};
    }

    private static BigInteger[] affine(BigInteger[] p) {
        BigInteger inverse = p[2].modInverse(P);
        return new BigInteger[] {p[0].multiply(inverse).mod(P), p[1].multiply(inverse).mod(P)};
    }

    private static BigInteger[] addScaled(BigInteger[] p, BigInteger[] q) {
        BigInteger a = p[2].multiply(q[2]).mod(P);
        BigInteger b = a.multiply(a);
        BigInteger c = p[0].multiply(q[0]).mod(P);
        BigInteger d = p[1].multiply(q[1]).mod(P);
        BigInteger e = D.multiply(c).mod(P).multiply(d);
        BigInteger f = b.subtract(e).mod(P);
        BigInteger g = b.add(e).mod(P);
        BigInteger cross = p[0].add(p[1]).multiply(q[0].add(q[1])).subtract(c).subtract(d).mod(P);
        return new BigInteger[] {
            a.multiply(f).mod(P).multiply(cross).mod(P),
            a.multiply(g).mod(P).multiply(d.add(c)).mod(P),
            f.multiply(g).mod(P)};
    }

    static byte[] sha512(byte[]... parts) {
        try {
            return MessageDigest.getInstance("SHA-512").digest(Bytes.join(parts));
        } catch (NoSuchAlgorithmException e) {
            throw new AssertionError(e);
        }
    }

    static BigInteger scalar(byte[] secret) {
        return Bytes.toNumber(clamped(sha512(secret)));
    }

    static byte[] publicKey(byte[] secret) {
        return encode(multiply(scalar(secret), BASE));
    }

    static byte[] sign(byte[] secret, byte[] message) {
        byte[] prefix = Arrays.copyOfRange(sha512(secret), 32, 64);
        BigInteger r = Bytes.toNumber(sha512(prefix, message)).mod(L);
        byte[] commitment = encode(multiply(r, BASE));
        BigInteger k = challenge(commitment, publicKey(secret), message);
        return Bytes.join(commitment, Bytes.ofNumber(k.multiply(scalar(secret)).add(r).mod(L)));
    }

    /** The whole hash's number, as RFC 8032, 5.1.7, tells k: not its remainder by L. */
    static BigInteger challenge(byte[] commitment, byte[] publicKey, byte[] message) {
        return Bytes.toNumber(sha512(commitment, publicKey, message));
    }

    static int verify(byte[] publicKey, byte[] signature, byte[] message) {
        byte[] commitment = Arrays.copyOf(signature, 32);
        BigInteger s = Bytes.toNumber(Arrays.copyOfRange(signature, 32, 64));
        if (s.compareTo(L) >= 0) {
            return 1;
        }
        BigInteger[] a = decode(publicKey);
        if (a == null) {
            return 2;
        }
        BigInteger[] due = add(multiply(s, BASE), multiply(challenge(commitment, publicKey, message), negate(a)));
        return Arrays.equals(encode(due), commitment) ? 0 : 3;
    }

    /** The eight points whose order divides 8, as multiples of one of order 8. */
    static BigInteger[][] smallOrderPoints() {
        BigInteger[] eighth = NEUTRAL;
        for (int y = 2; multiply(number(4), eighth)[1].equals(ONE); y++) {
            BigInteger[] p = decode(Bytes.ofNumber(number(y)));
            eighth = p == null ? NEUTRAL : multiply(L, p);
        }
        BigInteger[][] all = new BigInteger[8][];
        for (int i = 0; i < 8; i++) {
            all[i] = multiply(number(i), eighth);
        }
        return all;
    }
}
