import java.math.BigInteger;
import java.util.Arrays;
import java.util.Random;

/** Promise 9: verify, and when a signature is GOOD. */
public final class VerifyTest {
    private static final Check CHECK = new Check();
    private static final byte[] SECRET = Bytes.random(new Random(1), 32);
    private static final byte[] KEY = Reference.publicKey(SECRET);
    private static final byte[] MESSAGE = Bytes.random(new Random(2), 40);
    private static final byte[] SIGNATURE = Reference.sign(SECRET, MESSAGE);
    private static final byte[] R = Arrays.copyOf(SIGNATURE, 32);
    private static final BigInteger S = Bytes.toNumber(Arrays.copyOfRange(SIGNATURE, 32, 64));
    private static final byte[] NEUTRAL = Bytes.ofNumber(Reference.ONE);

    public static void main(String[] args) {
        goodSignatures();
        everyBitMatters();
        sMustBeBelowTheOrder();
        theHighestAndTheLowestSAreGood();
        yMustBeBelowThePrime();
        thereMustBeAnX();
        anXOf0HasNoSign();
        theFirstFaultIsTold();
        keysOfSmallOrderAreKeys();
        justTheFirst32BytesAreDue();
        kIsTheWholeNumberOfTheHash();
        aClaimOfZerosIsGood();
        noCofactorIsMultiplied();
        theTapeIsTaken();
        verifyIsRefusedWithout96Bytes();
        CHECK.finish();
    }

    private static int verdict(byte[] publicKey, byte[] signature, byte[] message) {
        CurveKeys x = new CurveKeys();
        Bytes.setMessage(x, message);
        int verdict = Bytes.verify(x, publicKey, signature);
        for (int i = 0; i < 4; i++) {
            CHECK.due("count(" + (5 + i) + ") after verify", x.count(5 + i), i == verdict ? 1 : 0);
        }
        return verdict;
    }

    private static byte[] signature(byte[] commitment, BigInteger s) {
        return Bytes.join(commitment, Bytes.ofNumber(s));
    }

    private static void goodSignatures() {
        Random random = new Random(10);
        for (int length = 0; length < 200; length += 7) {
            byte[] secret = Bytes.random(random, 32);
            byte[] message = Bytes.random(random, length);
            int verdict = verdict(Reference.publicKey(secret), Reference.sign(secret, message), message);
            CHECK.due("verify of a good signature of " + length, verdict, 0);
        }
    }

    private static void everyBitMatters() {
        for (int bit = 0; bit < 256; bit++) {
            byte[] key = Bytes.flipped(KEY, bit);
            CHECK.due("key bit " + bit, verdict(key, SIGNATURE, MESSAGE), Reference.verify(key, SIGNATURE, MESSAGE));
        }
        for (int bit = 0; bit < 512; bit++) {
            byte[] flipped = Bytes.flipped(SIGNATURE, bit);
            int due = Reference.verify(KEY, flipped, MESSAGE);
            CHECK.due("signature bit " + bit, verdict(KEY, flipped, MESSAGE), due);
            CHECK.due("signature bit " + bit + " is told", due == 0, false);
        }
        for (int bit = 0; bit < 8 * MESSAGE.length; bit += 5) {
            CHECK.due("message bit " + bit, verdict(KEY, SIGNATURE, Bytes.flipped(MESSAGE, bit)), 3);
        }
        CHECK.due("a longer message", verdict(KEY, SIGNATURE, Bytes.join(MESSAGE, new byte[1])), 3);
    }

    private static void sMustBeBelowTheOrder() {
        BigInteger l = Reference.L;
        CHECK.due("S", verdict(KEY, SIGNATURE, MESSAGE), 0);
        CHECK.due("S + L", verdict(KEY, signature(R, S.add(l)), MESSAGE), 1);
        CHECK.due("L - 1", verdict(KEY, signature(R, l.subtract(Reference.ONE)), MESSAGE), 3);
        CHECK.due("L", verdict(KEY, signature(R, l), MESSAGE), 1);
        CHECK.due("L + 1", verdict(KEY, signature(R, l.add(Reference.ONE)), MESSAGE), 1);
        CHECK.due("0", verdict(KEY, signature(R, Reference.ZERO), MESSAGE), 3);
        CHECK.due("2^252", verdict(KEY, signature(R, Reference.ONE.shiftLeft(252)), MESSAGE), 3);
        CHECK.due("2^253", verdict(KEY, signature(R, Reference.ONE.shiftLeft(253)), MESSAGE), 1);
        CHECK.due("2^255", verdict(KEY, signature(R, Reference.ONE.shiftLeft(255)), MESSAGE), 1);
        BigInteger highest = Reference.ONE.shiftLeft(256).subtract(Reference.ONE);
        CHECK.due("2^256 - 1", verdict(KEY, signature(R, highest), MESSAGE), 1);
        for (int bit = 0; bit < 256; bit++) {
            BigInteger s = l.flipBit(bit);
            int due = s.compareTo(l) < 0 ? 3 : 1;
            CHECK.due("L with bit " + bit + " flipped", verdict(KEY, signature(R, s), MESSAGE), due);
        }
    }

    /** For the neutral key [S]B alone is due, so any S can be tried; one too large would be right but for its size. */
    private static void theHighestAndTheLowestSAreGood() {
        byte[] minusBase = Reference.encode(Reference.negate(Reference.BASE));
        byte[] base = Reference.encode(Reference.BASE);
        BigInteger l = Reference.L;
        CHECK.due("S = 0", verdict(NEUTRAL, signature(NEUTRAL, Reference.ZERO), MESSAGE), 0);
        CHECK.due("S = 1", verdict(NEUTRAL, signature(base, Reference.ONE), MESSAGE), 0);
        CHECK.due("S = L - 1", verdict(NEUTRAL, signature(minusBase, l.subtract(Reference.ONE)), MESSAGE), 0);
        CHECK.due("S = L", verdict(NEUTRAL, signature(NEUTRAL, l), MESSAGE), 1);
        CHECK.due("S = L + 1", verdict(NEUTRAL, signature(base, l.add(Reference.ONE)), MESSAGE), 1);
    }

    private static void yMustBeBelowThePrime() {
        for (int above = 0; above < 19; above++) {
            BigInteger y = Reference.P.add(Reference.number(above));
            CHECK.due("y = p + " + above, verdict(Bytes.ofNumber(y), SIGNATURE, MESSAGE), 2);
            CHECK.due("y = p + " + above + ", signed", verdict(Bytes.ofNumber(y.setBit(255)), SIGNATURE, MESSAGE), 2);
        }
        byte[] highest = Bytes.ofNumber(Reference.P.subtract(Reference.ONE));
        CHECK.due("y = p - 1", verdict(highest, SIGNATURE, MESSAGE), 3);
        byte[] lowest = Bytes.ofNumber(Reference.ZERO);
        CHECK.due("y = 0", verdict(lowest, SIGNATURE, MESSAGE), 3);
        CHECK.due("y = 0, signed", verdict(Bytes.flipped(lowest, 255), SIGNATURE, MESSAGE), 3);
    }

    private static void thereMustBeAnX() {
        int[] seen = new int[4];
        for (int y = 2; y < 40; y++) {
            byte[] key = Bytes.ofNumber(Reference.number(y));
            int due = Reference.decode(key) == null ? 2 : 3;
            seen[due]++;
            CHECK.due("y = " + y, verdict(key, SIGNATURE, MESSAGE), due);
            CHECK.due("y = " + y + ", signed", verdict(Bytes.flipped(key, 255), SIGNATURE, MESSAGE), due);
        }
        CHECK.due("both answers were seen", seen[2] > 5 && seen[3] > 5, true);
    }

    private static void anXOf0HasNoSign() {
        for (BigInteger y : new BigInteger[] {Reference.ONE, Reference.P.subtract(Reference.ONE)}) {
            CHECK.due("y = " + y, verdict(Bytes.ofNumber(y), SIGNATURE, MESSAGE), 3);
            CHECK.due("y = " + y + ", signed", verdict(Bytes.ofNumber(y.setBit(255)), SIGNATURE, MESSAGE), 2);
        }
    }

    private static void theFirstFaultIsTold() {
        byte[] noPoint = Bytes.ofNumber(Reference.P);
        CHECK.due("L and no point", verdict(noPoint, signature(R, Reference.L), MESSAGE), 1);
        CHECK.due("L and another message", verdict(KEY, signature(R, Reference.L), new byte[1]), 1);
        CHECK.due("no point and another message", verdict(noPoint, SIGNATURE, new byte[1]), 2);
    }

    private static void keysOfSmallOrderAreKeys() {
        CHECK.due("all neutral", verdict(NEUTRAL, signature(NEUTRAL, Reference.ZERO), MESSAGE), 0);
        byte[] five = Reference.encode(Reference.multiply(Reference.number(5), Reference.BASE));
        CHECK.due("[5]B", verdict(NEUTRAL, signature(five, Reference.number(5)), MESSAGE), 0);
        CHECK.due("[5]B for 6", verdict(NEUTRAL, signature(five, Reference.number(6)), MESSAGE), 3);
    }

    /** No other form of the due point will do, though a careless reader would take it for the same. */
    private static void justTheFirst32BytesAreDue() {
        byte[] signed = Bytes.ofNumber(Reference.ONE.setBit(255));
        CHECK.due("neutral, signed", verdict(NEUTRAL, signature(signed, Reference.ZERO), MESSAGE), 3);
        byte[] above = Bytes.ofNumber(Reference.P.add(Reference.ONE));
        CHECK.due("neutral as p + 1", verdict(NEUTRAL, signature(above, Reference.ZERO), MESSAGE), 3);
        CHECK.due("no point at all", verdict(KEY, signature(Bytes.ofNumber(Reference.P), S), MESSAGE), 3);
    }

    /** A key with a part of small order tells the hash's number from its remainder by L. */
    private static void kIsTheWholeNumberOfTheHash() {
        BigInteger[][] small = Reference.smallOrderPoints();
        int[] seen = new int[4];
        for (int i = 0; i < 8; i++) {
            byte[] mixed = Reference.encode(Reference.add(Reference.decode(KEY), small[i]));
            for (byte number = 0; number < 12; number++) {
                byte[] message = {number};
                byte[] key = Reference.encode(small[i]);
                byte[] plain = signature(NEUTRAL, Reference.ZERO);
                int due = Reference.verify(key, plain, message);
                seen[due]++;
                CHECK.due("small order " + i + ", message " + number, verdict(key, plain, message), due);
                byte[] signed = signedFor(mixed, message);
                due = Reference.verify(mixed, signed, message);
                seen[due]++;
                CHECK.due("mixed order " + i + ", message " + number, verdict(mixed, signed, message), due);
            }
        }
        CHECK.due("both answers were seen", seen[0] > 20 && seen[3] > 20, true);
    }

    /** The shortest run that tells the whole number from its remainder by L, with which the answer would be 3. */
    private static void aClaimOfZerosIsGood() {
        CHECK.due("verify() of 96 bytes of 0", verdict(new byte[32], new byte[64], new byte[0]), 0);
    }

    private static byte[] signedFor(byte[] publicKey, byte[] message) {
        BigInteger r = Reference.number(123456789);
        byte[] commitment = Reference.encode(Reference.multiply(r, Reference.BASE));
        BigInteger k = Reference.challenge(commitment, publicKey, message);
        return signature(commitment, k.multiply(Reference.scalar(SECRET)).add(r).mod(Reference.L));
    }

    /** First 32 bytes that differ by a point of small order would be good if 8 were multiplied in. */
    private static void noCofactorIsMultiplied() {
        BigInteger[][] small = Reference.smallOrderPoints();
        for (int i = 0; i < 8; i++) {
            BigInteger r = Reference.number(1000 + i);
            byte[] commitment = Reference.encode(Reference.add(Reference.multiply(r, Reference.BASE), small[i]));
            BigInteger k = Reference.challenge(commitment, KEY, MESSAGE);
            BigInteger s = k.multiply(Reference.scalar(SECRET)).add(r).mod(Reference.L);
            CHECK.due("R + small order " + i, verdict(KEY, signature(commitment, s), MESSAGE), i == 0 ? 0 : 3);
        }
    }

    private static void theTapeIsTaken() {
        CurveKeys x = new CurveKeys();
        Bytes.makeKey(x, SECRET);
        Bytes.setMessage(x, MESSAGE);
        x.open(0, 1);
        byte[] shown = Bytes.result(x);
        byte[][] keys = {KEY, KEY, Bytes.ofNumber(Reference.P), NEUTRAL};
        BigInteger[] numbers = {S, Reference.L, S, S};
        for (int round = 1; round <= 3; round++) {
            for (int due = 0; due < 4; due++) {
                CHECK.due("verify()", Bytes.verify(x, keys[due], signature(R, numbers[due])), due);
                CHECK.due("count(0)", x.count(0), 0);
                CHECK.due("count(" + (5 + due) + ")", x.count(5 + due), round);
            }
        }
        CHECK.due("THE RESULT after verify", Bytes.result(x), shown);
        CHECK.due("THE MESSAGE after verify", x.count(2), MESSAGE.length);
        CHECK.due("signatures made by verify", x.count(4), 0);
    }

    private static void verifyIsRefusedWithout96Bytes() {
        for (int length : new int[] {0, 32, 64, 95, 97, 128, 192, 65536}) {
            CHECK.dueRefusal("verify() of " + length, () -> Made.with(1, length), IllegalArgumentException.class,
                    x -> x.verify());
        }
    }
}
