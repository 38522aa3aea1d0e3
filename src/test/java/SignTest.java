import java.util.NoSuchElementException;
import java.util.Random;

/** Promise 8: sign. */
public final class SignTest {
    private static final Check CHECK = new Check();

    public static void main(String[] args) {
        standardVectors();
        allLengthsRoundTheBlocksOfTheHash();
        messagesUpToAFullTape();
        manyKeys();
        signLeavesAllElse();
        signIsRefusedWithoutTheKey();
        CHECK.finish();
    }

    private static byte[] signed(byte[] secret, byte[] message) {
        CurveKeys x = new CurveKeys();
        Bytes.makeKey(x, secret);
        Bytes.setMessage(x, message);
        x.sign(0);
        return Bytes.result(x);
    }

    private static void standardVectors() {
        CHECK.due("RFC 8032, test 1", signed(
                Bytes.ofHex("9d61b19deffd5a60ba844af492ec2cc44449c5697b326919703bac031cae7f60"), new byte[0]),
                Bytes.ofHex("e5564300c360ac729086e2cc806e828a84877f1eb8e5d974d873e065224901555f"
                        + "b8821590a33bacc61e39701cf9b46bd25bf5f0595bbe24655141438e7a100b"));
        CHECK.due("RFC 8032, test 2", signed(
                Bytes.ofHex("4ccd089b28ff96da9db6c346ec114e0f5b8a319f35aba624da8cf6ed4fb8a6fb"), Bytes.ofHex("72")),
                Bytes.ofHex("92a009a9f0d4cab8720e820b5f642540a2b27b5416503f8fb3762223ebdb69da08"
                        + "5ac1e43e15996e458f3613d0f11d8c387b2eaeb4302aeeb00d291612bb0c00"));
        CHECK.due("RFC 8032, test 3", signed(
                Bytes.ofHex("c5aa8df43f9f837bedb7442f31dcb7b166d38535076f094b85ce3a2e0b4458f7"), Bytes.ofHex("af82")),
                Bytes.ofHex("6291d657deec24024827e69c3abe01a30ce548a284743a445e3680d7db5ac3ac18"
                        + "ff9b538d16f290ae67f760984dc6594a7c15e9716ed28dc027beceea1ec40a"));
        byte[] secretOfAbc = Bytes.ofHex("833fe62409237b9d62ec77587520911e9a759cec1d19755b7da901b96dca3d42");
        byte[] abc = {'a', 'b', 'c'};
        CHECK.due("RFC 8032, test SHA(abc)", signed(secretOfAbc, Reference.sha512(abc)),
                Bytes.ofHex("dc2a4459e7369633a52b1bf277839a00201009a3efbf3ecb69bea2186c26b58909"
                        + "351fc9ac90b3ecfdfbc7c66431e0303dca179c138ac17ad9bef1177331a704"));
    }

    private static void allLengthsRoundTheBlocksOfTheHash() {
        Random random = new Random(8);
        byte[] secret = Bytes.random(random, 32);
        for (int length = 0; length < 270; length++) {
            byte[] message = Bytes.random(random, length);
            CHECK.due("the signature of " + length, signed(secret, message), Reference.sign(secret, message));
        }
    }

    private static void messagesUpToAFullTape() {
        for (int length : new int[] {1023, 1024, 1025, 2049, 10000, 65535, 65536}) {
            byte[] message = Made.tape(length);
            CHECK.due("the signature of " + length, signed(Made.secret(0), message),
                    Reference.sign(Made.secret(0), message));
        }
    }

    private static void manyKeys() {
        Random random = new Random(9);
        CurveKeys x = new CurveKeys();
        byte[][] secrets = new byte[100][];
        for (int i = 0; i < 100; i++) {
            secrets[i] = Bytes.random(random, 32);
            Bytes.makeKey(x, secrets[i]);
        }
        for (int i = 0; i < 200; i++) {
            int key = random.nextInt(100);
            byte[] message = Bytes.random(random, random.nextInt(50));
            Bytes.setMessage(x, message);
            x.sign(key);
            CHECK.due("sign(" + key + ")", Bytes.result(x), Reference.sign(secrets[key], message));
        }
        CHECK.due("count(4)", x.count(4), 200);
    }

    private static void signLeavesAllElse() {
        CurveKeys x = new CurveKeys();
        Bytes.makeKey(x, new byte[32]);
        Bytes.setMessage(x, new byte[] {1, 2, 3});
        x.feed(1, 2, 3, 4, 5);
        x.sign(0);
        byte[] first = Bytes.result(x);
        CHECK.due("THE RESULT's length", x.count(3), 64);
        CHECK.due("the TAPE after sign", x.count(0), 20);
        CHECK.due("THE MESSAGE after sign", x.count(2), 3);
        CHECK.due("signatures made", x.count(4), 1);
        x.sign(0);
        CHECK.due("the same signature again", Bytes.result(x), first);
        CHECK.due("signatures made", x.count(4), 2);
    }

    private static void signIsRefusedWithoutTheKey() {
        for (int key : new int[] {-1, 2, 99, 100, 256, Integer.MIN_VALUE, Integer.MAX_VALUE}) {
            CHECK.dueRefusal("sign(" + key + ")", () -> Made.opened(20), NoSuchElementException.class,
                    x -> x.sign(key));
        }
        CHECK.dueRefusal("sign(100) with 100", () -> Made.with(100, 0), NoSuchElementException.class,
                x -> x.sign(100));
    }
}
