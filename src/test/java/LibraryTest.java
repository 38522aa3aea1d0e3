import java.math.BigInteger;
import java.security.GeneralSecurityException;
import java.security.KeyFactory;
import java.security.PrivateKey;
import java.security.PublicKey;
import java.security.Signature;
import java.security.spec.EdECPoint;
import java.security.spec.EdECPrivateKeySpec;
import java.security.spec.EdECPublicKeySpec;
import java.security.spec.NamedParameterSpec;
import java.security.spec.XECPrivateKeySpec;
import java.security.spec.XECPublicKeySpec;
import java.util.Random;
import javax.crypto.KeyAgreement;

/** "Bit for bit as these standards say": both shapes as the Java library has them, which nobody here has written. */
public final class LibraryTest {
    private static final int ROUNDS = 200;
    /** The library throws where the first 32 bytes are no point; in S a low bit leaves a signature to be judged. */
    private static final int LOW_BITS_OF_S = 256;
    private static final Check CHECK = new Check();
    private static final Random RANDOM = new Random(77);

    public static void main(String[] args) throws GeneralSecurityException {
        for (int round = 0; round < ROUNDS; round++) {
            agreesAlike();
            signsAlike(round);
        }
        CHECK.finish();
    }

    private static void agreesAlike() throws GeneralSecurityException {
        byte[] secret = Bytes.random(RANDOM, 32);
        byte[] other = Bytes.random(RANDOM, 32);
        CurveKeys x = new CurveKeys();
        Bytes.makeKey(x, secret);
        x.open(0, 0);
        CHECK.due("open(0, 0)", Bytes.result(x), agreed(secret, Reference.number(9)));
        Bytes.feed(x, other);
        CHECK.due("agree(0)", x.agree(0), true);
        CHECK.due("THE RESULT of agree(0)", Bytes.result(x), agreed(secret, Bytes.toNumber(other).clearBit(255)));
    }

    private static byte[] agreed(byte[] secret, BigInteger u) throws GeneralSecurityException {
        KeyFactory factory = KeyFactory.getInstance("X25519");
        KeyAgreement agreement = KeyAgreement.getInstance("X25519");
        agreement.init(factory.generatePrivate(new XECPrivateKeySpec(NamedParameterSpec.X25519, secret)));
        agreement.doPhase(factory.generatePublic(new XECPublicKeySpec(NamedParameterSpec.X25519, u)), true);
        return agreement.generateSecret();
    }

    /** The library signs what the program signs, and takes the program's public key for its own. */
    private static void signsAlike(int length) throws GeneralSecurityException {
        byte[] secret = Bytes.random(RANDOM, 32);
        byte[] message = Bytes.random(RANDOM, length);
        CurveKeys x = new CurveKeys();
        Bytes.makeKey(x, secret);
        Bytes.setMessage(x, message);
        x.open(0, 1);
        byte[] publicKey = Bytes.result(x);
        x.sign(0);
        byte[] signature = Bytes.result(x);
        CHECK.due("sign(0) of " + length, signature, signed(secret, message));
        CHECK.due("verify() of " + length, Bytes.verify(x, publicKey, signature), 0);
        CHECK.due("the library's verdict", isGood(publicKey, signature, message), true);
        byte[] changed = Bytes.flipped(signature, LOW_BITS_OF_S + RANDOM.nextInt(240));
        CHECK.due("verify() of a changed one", Bytes.verify(x, publicKey, changed), 3);
        CHECK.due("the library's verdict of a changed one", isGood(publicKey, changed, message), false);
    }

    private static byte[] signed(byte[] secret, byte[] message) throws GeneralSecurityException {
        EdECPrivateKeySpec spec = new EdECPrivateKeySpec(NamedParameterSpec.ED25519, secret);
        PrivateKey key = KeyFactory.getInstance("Ed25519").generatePrivate(spec);
        Signature signature = Signature.getInstance("Ed25519");
        signature.initSign(key);
        signature.update(message);
        return signature.sign();
    }

    private static boolean isGood(byte[] publicKey, byte[] signature, byte[] message) throws GeneralSecurityException {
        BigInteger form = Bytes.toNumber(publicKey);
        EdECPoint point = new EdECPoint(form.testBit(255), form.clearBit(255));
        EdECPublicKeySpec spec = new EdECPublicKeySpec(NamedParameterSpec.ED25519, point);
        PublicKey key = KeyFactory.getInstance("Ed25519").generatePublic(spec);
        Signature verifier = Signature.getInstance("Ed25519");
        verifier.initVerify(key);
        verifier.update(message);
        return verifier.verify(signature);
    }
}
