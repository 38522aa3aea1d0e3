/** Promises 11 and 12: back and result. */
public final class ResultTest {
    private static final int FULL = 65536;
    private static final byte[] SIGNATURE = Reference.sign(Made.secret(0), Made.MESSAGE);
    private static final byte[] OPENED = Reference.publicKey(Made.secret(1));
    private static final Check CHECK = new Check();

    public static void main(String[] args) {
        resultTellsBytesWithoutSign();
        resultIsRefusedWhereThereIsNoByte();
        backBringsTheResult();
        backChangesOneByteByTheLow8Bits();
        backAtMinus1ChangesNone();
        backOfAnEmptyResult();
        backIsRefusedWhereThereIsNoByte();
        backFillsTheTapeToItsLastByte();
        backIsRefusedWithoutRoom();
        aMissingByteIsToldBeforeTheRoom();
        CHECK.finish();
    }

    private static void resultTellsBytesWithoutSign() {
        CurveKeys x = Made.with(1, 0);
        for (int i = 0; i < 64; i++) {
            CHECK.due("result(" + i + ")", x.result(i), SIGNATURE[i] & 255);
        }
        int lowest = 255;
        int highest = 0;
        for (byte b : SIGNATURE) {
            lowest = Math.min(lowest, b & 255);
            highest = Math.max(highest, b & 255);
        }
        CHECK.due("bytes on both sides of 128 were seen", lowest < 128 && highest >= 128, true);
    }

    /** After a signature the bytes from 32 on are none of a shorter RESULT. */
    private static void resultIsRefusedWhereThereIsNoByte() {
        for (int i : new int[] {-1, 64, 65, 256, Integer.MIN_VALUE, Integer.MAX_VALUE}) {
            CHECK.dueRefusal("result(" + i + ") of 64", () -> Made.with(1, 5), IndexOutOfBoundsException.class,
                    x -> x.result(i));
        }
        for (int i : new int[] {-1, 32, 33, 63, 64, Integer.MIN_VALUE, Integer.MAX_VALUE}) {
            CHECK.dueRefusal("result(" + i + ") of 32", () -> Made.opened(5), IndexOutOfBoundsException.class,
                    x -> x.result(i));
        }
        for (int i : new int[] {-1, 0, 1}) {
            CHECK.dueRefusal("result(" + i + ") of 0", () -> Made.with(0, 5), IndexOutOfBoundsException.class,
                    x -> x.result(i));
        }
    }

    private static void tapeIs(String what, CurveKeys x, byte[] due) {
        CHECK.due(what + ": the TAPE's length", x.count(0), due.length);
        CHECK.due(what + ": the TAPE's bytes", Bytes.signatureOfTape(x, 0), Reference.sign(Made.secret(0), due));
    }

    private static void backBringsTheResult() {
        CurveKeys x = Made.opened(3);
        CHECK.due("back(-1, 255)", x.back(-1, 255), 35);
        CHECK.due("back(-1, 0)", x.back(-1, 0), 67);
        CHECK.due("THE RESULT after back", Bytes.result(x), OPENED);
        tapeIs("back twice", x, Bytes.join(Made.tape(3), OPENED, OPENED));
    }

    /** THE RESULT itself stays: the byte is changed on its way to the TAPE. */
    private static void backChangesOneByteByTheLow8Bits() {
        for (int at = 0; at < 32; at++) {
            for (int with : new int[] {0, 1, 128, 255, 256, 257, 0x1234567f, -1, -256, Integer.MIN_VALUE}) {
                CurveKeys x = Made.opened(4);
                String call = "back(" + at + ", " + with + ")";
                CHECK.due(call, x.back(at, with), 36);
                CHECK.due("THE RESULT after " + call, Bytes.result(x), OPENED);
                byte[] changed = OPENED.clone();
                changed[at] ^= (byte) with;
                tapeIs(call, x, Bytes.join(Made.tape(4), changed));
            }
        }
    }

    private static void backAtMinus1ChangesNone() {
        for (int with : new int[] {0, 1, 255, 256, -1, Integer.MIN_VALUE, Integer.MAX_VALUE}) {
            CurveKeys x = Made.with(1, 4);
            CHECK.due("back(-1, " + with + ")", x.back(-1, with), 68);
            tapeIs("back(-1, " + with + ")", x, Bytes.join(Made.tape(4), SIGNATURE));
        }
    }

    /** Nothing comes then, and for nothing there is room on a full TAPE, too. */
    private static void backOfAnEmptyResult() {
        for (int length : new int[] {0, 20, FULL}) {
            CHECK.due("back(-1, 3) of nothing at " + length, Made.with(0, length).back(-1, 3), length);
            CHECK.dueRefusal("back(0, 3) of nothing at " + length, () -> Made.with(0, length),
                    IndexOutOfBoundsException.class, x -> x.back(0, 3));
        }
    }

    private static void backIsRefusedWhereThereIsNoByte() {
        for (int at : new int[] {-2, 64, 65, 256, Integer.MIN_VALUE, Integer.MAX_VALUE}) {
            CHECK.dueRefusal("back(" + at + ", 1) of 64", () -> Made.with(1, 5), IndexOutOfBoundsException.class,
                    x -> x.back(at, 1));
        }
        for (int at : new int[] {-2, 32, 63, 64, Integer.MIN_VALUE, Integer.MAX_VALUE}) {
            CHECK.dueRefusal("back(" + at + ", 0) of 32", () -> Made.opened(5), IndexOutOfBoundsException.class,
                    x -> x.back(at, 0));
        }
        CHECK.due("back(63, 1) of 64", Made.with(1, 5).back(63, 1), 69);
        CHECK.due("back(31, 1) of 32", Made.opened(5).back(31, 1), 37);
    }

    private static void backFillsTheTapeToItsLastByte() {
        CurveKeys x = Made.with(1, FULL - 64);
        CHECK.due("back of 64 with room for just 64", x.back(-1, 0), FULL);
        tapeIs("back of 64", x, Bytes.join(Made.tape(FULL - 64), SIGNATURE));
        CurveKeys y = Made.opened(FULL - 32);
        CHECK.due("back of 32 with room for just 32", y.back(31, 255), FULL);
        byte[] changed = OPENED.clone();
        changed[31] ^= (byte) 255;
        tapeIs("back of 32", y, Bytes.join(Made.tape(FULL - 32), changed));
    }

    private static void backIsRefusedWithoutRoom() {
        for (int at : new int[] {-1, 0, 31}) {
            for (int length : new int[] {FULL - 63, FULL - 32, FULL - 1, FULL}) {
                CHECK.dueRefusal("back of 64 at " + length, () -> Made.with(1, length), IllegalStateException.class,
                        x -> x.back(at, 1));
            }
            for (int length : new int[] {FULL - 31, FULL - 1, FULL}) {
                CHECK.dueRefusal("back of 32 at " + length, () -> Made.opened(length), IllegalStateException.class,
                        x -> x.back(at, 1));
            }
        }
    }

    private static void aMissingByteIsToldBeforeTheRoom() {
        CHECK.dueRefusal("back(64, 1) of 64 with no room", () -> Made.with(1, FULL - 63),
                IndexOutOfBoundsException.class, x -> x.back(64, 1));
        CHECK.dueRefusal("back(-2, 1) of 64 with no room", () -> Made.with(1, FULL),
                IndexOutOfBoundsException.class, x -> x.back(-2, 1));
        CHECK.dueRefusal("back(32, 1) of 32 with no room", () -> Made.opened(FULL - 31),
                IndexOutOfBoundsException.class, x -> x.back(32, 1));
    }
}
