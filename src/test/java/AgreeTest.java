import java.math.BigInteger;
import java.util.NoSuchElementException;
import java.util.Random;

/** Promise 6: agree. */
public final class AgreeTest {
    private static final Check CHECK = new Check();

    public static void main(String[] args) {
        standardVectors();
        iteratedVector();
        bothSidesAgree();
        numbersAtTheEdges();
        allZeroIsToldAndCounted();
        otherFormsOfANumberAgreeAlike();
        agreeIsRefusedWithoutTheKey();
        agreeIsRefusedWithout32Bytes();
        aMissingKeyIsToldBeforeAWrongTape();
        CHECK.finish();
    }

    private static byte[] agreed(byte[] secret, byte[] other) {
        CurveKeys x = new CurveKeys();
        Bytes.makeKey(x, secret);
        Bytes.feed(x, other);
        CHECK.due("agree(0)", x.agree(0), true);
        CHECK.due("count(0) after agree", x.count(0), 0);
        CHECK.due("count(9) after agree", x.count(9), 0);
        return Bytes.result(x);
    }

    private static void standardVectors() {
        CHECK.due("RFC 7748, 5.2, first", agreed(
                Bytes.ofHex("a546e36bf0527c9d3b16154b82465edd62144c0ac1fc5a18506a2244ba449ac4"),
                Bytes.ofHex("e6db6867583030db3594c1a424b15f7c726624ec26b3353b10a903a6d0ab1c4c")),
                Bytes.ofHex("c3da55379de9c6908e94ea4df28d084f32eccf03491c71f754b4075577a28552"));
        CHECK.due("RFC 7748, 5.2, second", agreed(
                Bytes.ofHex("4b66e9d4d1b4673c5ad22691957d6af5c11b6421e0ea01d42ca4169e7918ba0d"),
                Bytes.ofHex("e5210f12786811d3f4b7959d0538ae2c31dbe7106fc03c3efc4cd549c715a493")),
                Bytes.ofHex("95cbde9476e8907d7aade45cb4b873f88b595a68799fa152e6f8f7647aac7957"));
    }

    private static void iteratedVector() {
        byte[] k = Bytes.ofNumber(Reference.number(9));
        byte[] u = k;
        for (int i = 0; i < 1000; i++) {
            byte[] next = agreed(k, u);
            u = k;
            k = next;
            if (i == 0) {
                CHECK.due("RFC 7748, iterated once", k,
                        Bytes.ofHex("422c8e7a6227d7bca1350b3e2bb7279f7897b87bb6854b783c60e80311ae3079"));
            }
        }
        CHECK.due("RFC 7748, iterated 1000 times", k,
                Bytes.ofHex("684cf59ba83309552800ef566f2f4d3c1c3887c49360e3875f2eb94d99532c51"));
    }

    private static void bothSidesAgree() {
        Random random = new Random(6);
        for (int i = 0; i < 10; i++) {
            CurveKeys x = new CurveKeys();
            byte[] first = Bytes.random(random, 32);
            byte[] second = Bytes.random(random, 32);
            Bytes.makeKey(x, first);
            Bytes.makeKey(x, second);
            x.open(0, 0);
            byte[] firstOpen = Bytes.result(x);
            x.back(-1, 0);
            x.agree(1);
            byte[] agreed = Bytes.result(x);
            CHECK.due("agree(1)", agreed, Reference.x25519(second, firstOpen));
            x.open(1, 0);
            x.back(-1, 0);
            x.agree(0);
            CHECK.due("agree(0)", Bytes.result(x), agreed);
        }
    }

    /** Bytes of 2^255 - 19 and above, and the highest bit, which is not looked at. */
    private static void numbersAtTheEdges() {
        byte[] secret = Bytes.random(new Random(7), 32);
        for (int above = -30; above <= 19; above++) {
            BigInteger u = Reference.P.add(Reference.number(above));
            for (BigInteger number : new BigInteger[] {u.clearBit(255), u.setBit(255)}) {
                compareWithReference(secret, Bytes.ofNumber(number));
            }
        }
        for (int bit = 0; bit < 256; bit++) {
            compareWithReference(secret, Bytes.ofNumber(Reference.ONE.shiftLeft(bit)));
        }
    }

    private static void compareWithReference(byte[] secret, byte[] u) {
        CurveKeys x = new CurveKeys();
        Bytes.makeKey(x, secret);
        Bytes.feed(x, u);
        byte[] due = Reference.x25519(secret, u);
        boolean dueZero = Bytes.toNumber(due).signum() == 0;
        CHECK.due("agree with " + Bytes.toHex(u), x.agree(0), !dueZero);
        CHECK.due("the secret with " + Bytes.toHex(u), Bytes.result(x), due);
        CHECK.due("count(9)", x.count(9), dueZero ? 1 : 0);
    }

    private static void allZeroIsToldAndCounted() {
        CurveKeys x = Made.with(1, 0);
        BigInteger[] zeros = {
            Reference.ZERO, Reference.ONE, Reference.P, Reference.P.add(Reference.ONE),
            Reference.P.subtract(Reference.ONE), Reference.ZERO.setBit(255), Reference.ONE.setBit(255),
            new BigInteger("325606250916557431795983626356110631294008115727848805560023387167927233504"),
            new BigInteger("39382357235489614581723060781553021112529911719440698176882885853963445705823")};
        for (int i = 0; i < zeros.length; i++) {
            x.sign(0);
            Bytes.feed(x, Bytes.ofNumber(zeros[i]));
            CHECK.due("agree with " + zeros[i], x.agree(0), false);
            CHECK.due("THE RESULT", Bytes.result(x), new byte[32]);
            CHECK.due("count(9)", x.count(9), i + 1);
            CHECK.due("count(0)", x.count(0), 0);
        }
    }

    /** RFC 7748 lets the highest bit of the other side's number go, and takes what is left modulo 2^255 - 19. */
    private static void otherFormsOfANumberAgreeAlike() {
        byte[] secret = Made.secret(0);
        byte[] due = agreed(secret, Bytes.ofNumber(Reference.number(9)));
        CHECK.due("9 with the highest bit", agreed(secret, Bytes.ofNumber(Reference.number(9).setBit(255))), due);
        BigInteger above = Reference.P.add(Reference.number(9));
        CHECK.due("p + 9", agreed(secret, Bytes.ofNumber(above)), due);
        CHECK.due("p + 9 with the highest bit", agreed(secret, Bytes.ofNumber(above.setBit(255))), due);
    }

    private static void agreeIsRefused(int key, int length, Class<? extends RuntimeException> want) {
        CHECK.dueRefusal("agree(" + key + ") of " + length, () -> Made.with(2, length), want, x -> x.agree(key));
    }

    private static void agreeIsRefusedWithoutTheKey() {
        for (int key : new int[] {-1, 2, 99, 100, 256, Integer.MIN_VALUE, Integer.MAX_VALUE}) {
            agreeIsRefused(key, 32, NoSuchElementException.class);
        }
        CHECK.dueRefusal("agree(100) with 100", () -> Made.with(100, 32), NoSuchElementException.class,
                x -> x.agree(100));
    }

    private static void agreeIsRefusedWithout32Bytes() {
        for (int length : new int[] {0, 1, 31, 33, 64, 96, 65536}) {
            agreeIsRefused(1, length, IllegalArgumentException.class);
        }
    }

    private static void aMissingKeyIsToldBeforeAWrongTape() {
        for (int length : new int[] {0, 31, 33}) {
            agreeIsRefused(-1, length, NoSuchElementException.class);
            agreeIsRefused(2, length, NoSuchElementException.class);
        }
    }
}
