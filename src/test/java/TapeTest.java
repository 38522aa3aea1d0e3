import java.util.Arrays;

/** Promises 2, 3 and 7: feed, end and message. */
public final class TapeTest {
    private static final int FULL = 65536;
    private static final Check CHECK = new Check();

    public static void main(String[] args) {
        feedBringsTheHighestByteFirst();
        feedFillsTheTapeToItsLastByte();
        feedIsRefusedWithoutRoomFor20();
        endKeepsUpToAll();
        endKeepsTheFirstBytes();
        endIsRefusedBelow0AndBeyondAll();
        endBringsNoCutByteBack();
        messageTakesTheTape();
        messageOfAnEmptyTape();
        messageOfAFullTape();
        CHECK.finish();
    }

    /** What a key signs depends on each byte of the TAPE. */
    private static void tapeIs(String what, CurveKeys x, byte[] due) {
        CHECK.due(what + ": its length", x.count(0), due.length);
        CHECK.due(what + ": its bytes", Bytes.signatureOfTape(x, 0), Reference.sign(Made.secret(0), due));
    }

    private static void feedBringsTheHighestByteFirst() {
        CurveKeys x = Made.with(1, 0);
        CHECK.due("feed", x.feed(0x00010203, 0x04050607, 0x08090a0b, 0x0c0d0e0f, 0x10111213), 20);
        CHECK.due("feed", x.feed(0x94959697, -1, Integer.MIN_VALUE, Integer.MAX_VALUE, 0), 40);
        CHECK.due("count(0)", x.count(0), 40);
        tapeIs("the TAPE after feed", x, Bytes.ofHex("000102030405060708090a0b0c0d0e0f10111213"
                + "94959697ffffffff800000007fffffff00000000"));
    }

    private static void feedFillsTheTapeToItsLastByte() {
        CurveKeys x = Made.with(1, FULL - 20);
        CHECK.due("feed with room for just 20", x.feed(1, 2, 3, 4, 5), FULL);
        tapeIs("the full TAPE", x, Bytes.join(Made.tape(FULL - 20),
                Bytes.ofHex("0000000100000002000000030000000400000005")));
        CHECK.due("feed after the full TAPE was taken", x.feed(1, 2, 3, 4, 5), 20);
    }

    private static void feedIsRefusedWithoutRoomFor20() {
        for (int length : new int[] {FULL - 19, FULL - 16, FULL - 4, FULL - 1, FULL}) {
            CHECK.dueRefusal("feed at " + length, () -> Made.with(1, length), IllegalStateException.class,
                    x -> x.feed(1, 2, 3, 4, 5));
        }
    }

    private static void endKeepsUpToAll() {
        for (int length : new int[] {0, 1, 20, 33, FULL}) {
            CurveKeys x = Made.with(1, length);
            CHECK.due("end of all " + length, x.end(length), length);
            tapeIs("the TAPE after end of all " + length, x, Made.tape(length));
            CurveKeys y = Made.with(1, length);
            CHECK.due("end(0) of " + length, y.end(0), 0);
            tapeIs("the TAPE after end(0) of " + length, y, new byte[0]);
        }
    }

    private static void endKeepsTheFirstBytes() {
        for (int n : new int[] {1, 19, 20, 21, 39}) {
            CurveKeys x = Made.with(1, 40);
            CHECK.due("end(" + n + ") of 40", x.end(n), n);
            tapeIs("the TAPE after end(" + n + ")", x, Arrays.copyOf(Made.tape(40), n));
        }
    }

    private static void endIsRefusedBelow0AndBeyondAll() {
        for (int length : new int[] {0, 20, 33, FULL}) {
            for (int n : new int[] {-1, length + 1, Integer.MIN_VALUE, Integer.MAX_VALUE}) {
                CHECK.dueRefusal("end(" + n + ") of " + length, () -> Made.with(1, length),
                        IllegalArgumentException.class, x -> x.end(n));
            }
        }
    }

    private static void endBringsNoCutByteBack() {
        CHECK.dueRefusal("end(6) after end(5)", () -> {
            CurveKeys x = Made.with(1, 40);
            x.end(5);
            return x;
        }, IllegalArgumentException.class, x -> x.end(6));
        CurveKeys x = Made.with(1, 40);
        x.end(5);
        x.feed(0, 0, 0, 0, 0);
        tapeIs("what comes behind end(5)", x, Bytes.join(Arrays.copyOf(Made.tape(40), 5), new byte[20]));
    }

    private static void messageTakesTheTape() {
        CurveKeys x = Made.with(1, 33);
        CHECK.due("message", x.message(), 33);
        CHECK.due("count(0) after message", x.count(0), 0);
        CHECK.due("count(2) after message", x.count(2), 33);
        x.feed(1, 2, 3, 4, 5);
        CHECK.due("count(2) while the TAPE grows", x.count(2), 33);
        x.sign(0);
        CHECK.due("the first message's signature", Bytes.result(x), Reference.sign(Made.secret(0), Made.tape(33)));
        x.end(4);
        CHECK.due("a shorter message", x.message(), 4);
        x.sign(0);
        byte[] due = Reference.sign(Made.secret(0), new byte[] {0, 0, 0, 1});
        CHECK.due("the shorter message's signature", Bytes.result(x), due);
    }

    private static void messageOfAnEmptyTape() {
        CurveKeys x = Made.with(1, 0);
        CHECK.due("THE MESSAGE before", x.count(2), Made.MESSAGE.length);
        CHECK.due("message of an empty TAPE", x.message(), 0);
        CHECK.due("THE MESSAGE after", x.count(2), 0);
        x.sign(0);
        CHECK.due("the signature of no bytes", Bytes.result(x), Reference.sign(Made.secret(0), new byte[0]));
    }

    private static void messageOfAFullTape() {
        CurveKeys x = Made.with(1, FULL);
        CHECK.due("message of a full TAPE", x.message(), FULL);
        Bytes.feed(x, new byte[FULL]);
        CHECK.due("a full TAPE beside a full MESSAGE", x.count(0), FULL);
        x.sign(0);
        CHECK.due("the full message's signature", Bytes.result(x), Reference.sign(Made.secret(0), Made.tape(FULL)));
        tapeIs("the full TAPE beside it", x, new byte[FULL]);
    }
}
