import java.math.BigInteger;
import java.nio.charset.StandardCharsets;
import java.util.Arrays;
import java.util.NoSuchElementException;
import java.util.function.Consumer;

/** The document's "Terms", as far as they go beyond one promise. */
public final class TermsTest {
    private static final byte[] PUBLIC_KEY = Reference.publicKey(Made.secret(0));
    private static final byte[] GOOD = Reference.sign(Made.secret(0), Made.MESSAGE);
    private static final byte[] NO_POINT = Bytes.ofNumber(Reference.P);
    private static final byte[] NINE = Bytes.ofNumber(Reference.number(9));
    private static final Check CHECK = new Check();

    public static void main(String[] args) {
        whatTakesTheTapeLeavesItEmpty();
        whatTakesTheTapeLeavesItIfItThrows();
        whatDoesNotTakeTheTapeLeavesIt();
        oneKeyServesBothShapes();
        aKeyKeepsTheBitsThatOneShapeCutsOff();
        noContextAndNoHashBefore();
        CHECK.finish();
    }

    private static void takes(String what, byte[] tape, Consumer<CurveKeys> call) {
        CurveKeys x = Made.with(2, 0);
        Bytes.feed(x, tape);
        call.accept(x);
        CHECK.due("the TAPE after " + what, x.count(0), 0);
        x.feed(1, 2, 3, 4, 5);
        byte[] due = Reference.sign(Made.secret(0), Bytes.ofHex("0000000100000002000000030000000400000005"));
        CHECK.due("what is fed after " + what, Bytes.signatureOfTape(x, 0), due);
    }

    private static void whatTakesTheTapeLeavesItEmpty() {
        takes("key()", new byte[32], x -> x.key());
        takes("agree(0)", NINE, x -> x.agree(0));
        takes("agree(0) of 0", new byte[32], x -> x.agree(0));
        takes("message()", new byte[50], x -> x.message());
        takes("verify() that answers 0", Bytes.join(PUBLIC_KEY, GOOD), x -> x.verify());
        takes("verify() that answers 1", Bytes.join(PUBLIC_KEY, Bytes.flipped(GOOD, 511)), x -> x.verify());
        takes("verify() that answers 2", Bytes.join(NO_POINT, GOOD), x -> x.verify());
        takes("verify() that answers 3", Bytes.join(PUBLIC_KEY, Bytes.flipped(GOOD, 0)), x -> x.verify());
        takes("point() of a point", PUBLIC_KEY, x -> x.point());
        takes("point() of none", NO_POINT, x -> x.point());
    }

    private static void whatTakesTheTapeLeavesItIfItThrows() {
        CHECK.dueRefusal("key() of 33", () -> Made.with(2, 33), IllegalArgumentException.class, x -> x.key());
        CHECK.dueRefusal("key() with 100", () -> Made.with(100, 32), IllegalStateException.class, x -> x.key());
        CHECK.dueRefusal("agree(2)", () -> Made.with(2, 32), NoSuchElementException.class, x -> x.agree(2));
        CHECK.dueRefusal("agree(0) of 31", () -> Made.with(2, 31), IllegalArgumentException.class, x -> x.agree(0));
        CHECK.dueRefusal("verify() of 97", () -> Made.with(2, 97), IllegalArgumentException.class, x -> x.verify());
        CHECK.dueRefusal("point() of 31", () -> Made.with(2, 31), IllegalArgumentException.class, x -> x.point());
    }

    private static void leaves(String what, Consumer<CurveKeys> call) {
        CurveKeys x = Made.with(2, 96);
        call.accept(x);
        CHECK.due("the TAPE's length after " + what, x.count(0), 96);
        byte[] due = Reference.sign(Made.secret(0), Made.tape(96));
        CHECK.due("the TAPE's bytes after " + what, Bytes.signatureOfTape(x, 0), due);
    }

    private static void whatDoesNotTakeTheTapeLeavesIt() {
        leaves("open(1, 0)", x -> x.open(1, 0));
        leaves("open(1, 1)", x -> x.open(1, 1));
        leaves("sign(1)", x -> x.sign(1));
        leaves("result(63)", x -> x.result(63));
        leaves("count(0)", x -> x.count(0));
        leaves("end(96)", x -> x.end(96));
    }

    /** In one order and in the other: what a KEY did in one shape does not matter in the other. */
    private static void oneKeyServesBothShapes() {
        byte[] secret = Made.secret(0);
        for (int first = 0; first < 4; first++) {
            CurveKeys x = new CurveKeys();
            Bytes.makeKey(x, secret);
            for (int use = first; use < first + 8; use++) {
                oneUse(x, secret, use % 4);
            }
        }
    }

    private static void oneUse(CurveKeys x, byte[] secret, int use) {
        if (use == 0) {
            x.open(0, 0);
            CHECK.due("open(0, 0)", Bytes.result(x), Reference.x25519(secret, NINE));
        } else if (use == 1) {
            x.sign(0);
            CHECK.due("sign(0)", Bytes.result(x), Reference.sign(secret, new byte[0]));
        } else if (use == 2) {
            Bytes.feed(x, PUBLIC_KEY);
            x.agree(0);
            CHECK.due("agree(0)", Bytes.result(x), Reference.x25519(secret, PUBLIC_KEY));
        } else {
            x.open(0, 1);
            CHECK.due("open(0, 1)", Bytes.result(x), Reference.publicKey(secret));
        }
    }

    /** X25519 does not look at five bits of a secret; Ed25519 does. */
    private static void aKeyKeepsTheBitsThatOneShapeCutsOff() {
        for (int bit : new int[] {0, 1, 2, 254, 255}) {
            byte[] secret = Made.secret(0);
            byte[] other = Bytes.flipped(secret, bit);
            CurveKeys x = new CurveKeys();
            Bytes.makeKey(x, other);
            x.open(0, 0);
            CHECK.due("open(0, 0) without bit " + bit, Bytes.result(x), Reference.x25519(secret, NINE));
            x.open(0, 1);
            CHECK.due("open(0, 1) with bit " + bit, Bytes.result(x), Reference.publicKey(other));
            CHECK.due("bit " + bit + " matters", Arrays.equals(Bytes.result(x), PUBLIC_KEY), false);
        }
    }

    /** RFC 8032 has two more kinds, Ed25519ctx and Ed25519ph; their signatures are none here. */
    private static void noContextAndNoHashBefore() {
        CHECK.due("with nothing before", verdictOf(signedBehind(new byte[0], Made.MESSAGE)), 0);
        CHECK.due("with an empty context", verdictOf(signedBehind(domain(0, ""), Made.MESSAGE)), 3);
        CHECK.due("with a context", verdictOf(signedBehind(domain(0, "foo"), Made.MESSAGE)), 3);
        byte[] hashed = Reference.sha512(Made.MESSAGE);
        CHECK.due("with a hash before", verdictOf(signedBehind(domain(1, ""), hashed)), 3);
        CHECK.due("with only a hash before", verdictOf(signedBehind(new byte[0], hashed)), 3);
    }

    private static int verdictOf(byte[] signature) {
        return Bytes.verify(Made.with(1, 0), PUBLIC_KEY, signature);
    }

    private static byte[] domain(int flag, String context) {
        byte[] fixed = "SigEd25519 no Ed25519 collisions".getBytes(StandardCharsets.US_ASCII);
        byte[] told = context.getBytes(StandardCharsets.US_ASCII);
        return Bytes.join(fixed, new byte[] {(byte) flag, (byte) told.length}, told);
    }

    private static byte[] signedBehind(byte[] before, byte[] message) {
        byte[] secret = Made.secret(0);
        byte[] prefix = Arrays.copyOfRange(Reference.sha512(secret), 32, 64);
        BigInteger r = Bytes.toNumber(Reference.sha512(before, prefix, message)).mod(Reference.L);
        byte[] commitment = Reference.encode(Reference.multiply(r, Reference.BASE));
        BigInteger k = Bytes.toNumber(Reference.sha512(before, commitment, PUBLIC_KEY, message));
        return Bytes.join(commitment, Bytes.ofNumber(k.multiply(Reference.scalar(secret)).add(r).mod(Reference.L)));
    }
}
