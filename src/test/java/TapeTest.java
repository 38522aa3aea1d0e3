import java.util.Arrays;

/** Promises 2, 3 and 7: feed, end and message. */
public final class TapeTest {
    private static final Check CHECK = new Check();

    public static void main(String[] args) {
        feedBringsTheHighestByteFirst();
        feedStopsWhereThereIsNoRoom();
        endCutsTheTape();
        messageTakesTheTape();
        CHECK.finish();
    }

    /** A public key comes back over feed just as it stands in THE RESULT, so the order of the bytes is seen. */
    private static void feedBringsTheHighestByteFirst() {
        CurveKeys x = new CurveKeys();
        CHECK.due("feed", x.feed(0x00010203, 0x04050607, 0x08090a0b, 0x0c0d0e0f, 0x10111213), 20);
        CHECK.due("feed", x.feed(0x94959697, 0x98999a9b, 0xfcfdfeff, -1, Integer.MIN_VALUE), 40);
        CHECK.due("count(0)", x.count(0), 40);
        x.end(32);
        x.key();
        byte[] secret = Bytes.ofHex("000102030405060708090a0b0c0d0e0f1011121394959697" + "98999a9bfcfdfeff");
        x.open(0, 1);
        CHECK.due("the key of fed bytes", Bytes.result(x), Reference.publicKey(secret));
        x.feed(-1, Integer.MIN_VALUE, 1, 0x7fffffff, 0);
        x.message();
        x.sign(0);
        byte[] message = Bytes.ofHex("ffffffff80000000000000017fffffff00000000");
        CHECK.due("the signature of fed bytes", Bytes.result(x), Reference.sign(secret, message));
    }

    private static void feedStopsWhereThereIsNoRoom() {
        CurveKeys x = new CurveKeys();
        int length = 0;
        for (int i = 0; i < 3276; i++) {
            length += 20;
            CHECK.due("feed", x.feed(i, i, i, i, i), length);
        }
        CHECK.dueThrow("feed at 65,520", x, IllegalStateException.class, () -> x.feed(1, 2, 3, 4, 5));
        x.end(65517);
        CHECK.dueThrow("feed at 65,517", x, IllegalStateException.class, () -> x.feed(1, 2, 3, 4, 5));
        x.end(65516);
        CHECK.due("feed at 65,516", x.feed(1, 2, 3, 4, 5), 65536);
        CHECK.dueThrow("feed at 65,536", x, IllegalStateException.class, () -> x.feed(1, 2, 3, 4, 5));
        CHECK.due("message of a full TAPE", x.message(), 65536);
        CHECK.due("feed after message", x.feed(1, 2, 3, 4, 5), 20);
    }

    private static void endCutsTheTape() {
        CurveKeys x = new CurveKeys();
        CHECK.dueThrow("end(1) of 0", x, IllegalArgumentException.class, () -> x.end(1));
        CHECK.dueThrow("end(-1) of 0", x, IllegalArgumentException.class, () -> x.end(-1));
        x.feed(1, 2, 3, 4, 5);
        CHECK.dueThrow("end(21) of 20", x, IllegalArgumentException.class, () -> x.end(21));
        CHECK.dueThrow("end(-1) of 20", x, IllegalArgumentException.class, () -> x.end(-1));
        CHECK.dueThrow("end of the least int", x, IllegalArgumentException.class, () -> x.end(Integer.MIN_VALUE));
        CHECK.dueThrow("end of the greatest int", x, IllegalArgumentException.class, () -> x.end(Integer.MAX_VALUE));
        CHECK.due("end(20) of 20", x.end(20), 20);
        CHECK.due("end(7) of 20", x.end(7), 7);
        CHECK.due("count(0)", x.count(0), 7);
        CHECK.dueThrow("end(8) of 7", x, IllegalArgumentException.class, () -> x.end(8));
        CHECK.due("end(0) of 7", x.end(0), 0);
        theFirstBytesStay();
    }

    private static void theFirstBytesStay() {
        CurveKeys x = new CurveKeys();
        byte[] secret = new byte[32];
        Bytes.makeKey(x, secret);
        byte[] first = Bytes.ofHex("0102030405060708090a0b0c0d0e0f1011121314");
        Bytes.feed(x, first);
        x.end(5);
        Bytes.feed(x, first);
        byte[] due = Bytes.join(Arrays.copyOf(first, 5), first);
        CHECK.due("what stays behind end", Bytes.signatureOfTape(x, 0), Reference.sign(secret, due));
    }

    private static void messageTakesTheTape() {
        CurveKeys x = new CurveKeys();
        byte[] secret = Bytes.ofNumber(Reference.number(77));
        Bytes.makeKey(x, secret);
        CHECK.due("message of an empty TAPE", x.message(), 0);
        byte[] longer = new byte[33];
        Arrays.fill(longer, (byte) 0xa5);
        byte[] shorter = {1, 2, 3};
        Bytes.feed(x, longer);
        CHECK.due("message", x.message(), 33);
        CHECK.due("count(0) after message", x.count(0), 0);
        CHECK.due("count(2) after message", x.count(2), 33);
        Bytes.feed(x, shorter);
        CHECK.due("count(2) while the TAPE grows", x.count(2), 33);
        x.sign(0);
        CHECK.due("the signature of the first message", Bytes.result(x), Reference.sign(secret, longer));
        CHECK.due("message", x.message(), 3);
        x.sign(0);
        CHECK.due("the signature of the second message", Bytes.result(x), Reference.sign(secret, shorter));
        CHECK.due("message again", x.message(), 0);
        x.sign(0);
        CHECK.due("the signature of no bytes", Bytes.result(x), Reference.sign(secret, new byte[0]));
    }
}
