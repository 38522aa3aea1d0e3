/** Promises 11 and 12: back and result. */
public final class ResultTest {
    private static final Check CHECK = new Check();
    private static final byte[] SECRET = Bytes.ofNumber(Reference.number(4321));

    public static void main(String[] args) {
        resultTellsBytesWithoutSign();
        resultOfWrongPlaces();
        backBringsTheResult();
        backChangesOneByte();
        backOfAnEmptyResult();
        backOfWrongPlaces();
        backWithoutRoom();
        CHECK.finish();
    }

    private static CurveKeys withKey() {
        CurveKeys x = new CurveKeys();
        Bytes.makeKey(x, SECRET);
        return x;
    }

    private static void resultTellsBytesWithoutSign() {
        CurveKeys x = withKey();
        x.sign(0);
        byte[] due = Reference.sign(SECRET, new byte[0]);
        for (int i = 0; i < 64; i++) {
            CHECK.due("result(" + i + ")", x.result(i), due[i] & 255);
        }
    }

    private static void resultOfWrongPlaces() {
        CurveKeys x = withKey();
        CHECK.dueThrow("result(0) of 0", x, IndexOutOfBoundsException.class, () -> x.result(0));
        x.sign(0);
        x.open(0, 0);
        for (int i : new int[] {-1, 32, 63, 64, Integer.MIN_VALUE, Integer.MAX_VALUE}) {
            CHECK.dueThrow("result(" + i + ") of 32", x, IndexOutOfBoundsException.class, () -> x.result(i));
        }
        x.sign(0);
        CHECK.dueThrow("result(64) of 64", x, IndexOutOfBoundsException.class, () -> x.result(64));
        CHECK.dueThrow("result(-1) of 64", x, IndexOutOfBoundsException.class, () -> x.result(-1));
    }

    private static void backBringsTheResult() {
        CurveKeys x = withKey();
        byte[] open = Reference.publicKey(SECRET);
        x.feed(0x01020304, 0, 0, 0, 0);
        x.end(3);
        x.open(0, 1);
        CHECK.due("back(-1, 255)", x.back(-1, 255), 35);
        CHECK.due("back(-1, 0)", x.back(-1, 0), 67);
        CHECK.due("count(0)", x.count(0), 67);
        CHECK.due("THE RESULT after back", Bytes.result(x), open);
        byte[] due = Bytes.join(new byte[] {1, 2, 3}, open, open);
        CHECK.due("the bytes on the TAPE", Bytes.signatureOfTape(x, 0), Reference.sign(SECRET, due));
    }

    private static void backChangesOneByte() {
        for (int at = 0; at < 32; at++) {
            for (int with : new int[] {0, 1, 128, 255, 256, 0x1234567f, -1, Integer.MIN_VALUE}) {
                CurveKeys x = withKey();
                byte[] open = Reference.publicKey(SECRET);
                x.feed(7, 7, 7, 7, 7);
                x.end(4);
                x.open(0, 1);
                CHECK.due("back", x.back(at, with), 36);
                CHECK.due("THE RESULT after back", Bytes.result(x), open);
                open[at] ^= (byte) with;
                byte[] due = Bytes.join(new byte[] {0, 0, 0, 7}, open);
                CHECK.due("back(" + at + ", " + with + ")", Bytes.signatureOfTape(x, 0), Reference.sign(SECRET, due));
            }
        }
    }

    private static void backOfAnEmptyResult() {
        CurveKeys x = new CurveKeys();
        CHECK.due("back(-1, 3)", x.back(-1, 3), 0);
        CHECK.dueThrow("back(0, 0) of 0", x, IndexOutOfBoundsException.class, () -> x.back(0, 0));
        x.feed(1, 2, 3, 4, 5);
        CHECK.due("back(-1, 3)", x.back(-1, 3), 20);
        CHECK.dueThrow("back(0, 0) of 0", x, IndexOutOfBoundsException.class, () -> x.back(0, 0));
    }

    private static void backOfWrongPlaces() {
        CurveKeys x = withKey();
        x.sign(0);
        CHECK.due("back(63, 1)", x.back(63, 1), 64);
        CHECK.dueThrow("back(64, 1) of 64", x, IndexOutOfBoundsException.class, () -> x.back(64, 1));
        x.open(0, 1);
        for (int at : new int[] {-2, 32, 63, 64, Integer.MIN_VALUE, Integer.MAX_VALUE}) {
            CHECK.dueThrow("back(" + at + ", 1)", x, IndexOutOfBoundsException.class, () -> x.back(at, 1));
        }
    }

    private static void backWithoutRoom() {
        CurveKeys x = withKey();
        x.sign(0);
        for (int i = 1; i <= 1023; i++) {
            CHECK.due("back", x.back(-1, 0), 64 * i);
        }
        x.feed(1, 2, 3, 4, 5);
        x.end(64 * 1023 + 1);
        CHECK.dueThrow("back with room for 63", x, IllegalStateException.class, () -> x.back(-1, 0));
        CHECK.dueThrow("back(5, 1) with room for 63", x, IllegalStateException.class, () -> x.back(5, 1));
        CHECK.dueThrow("back(64, 1) with room for 63", x, IndexOutOfBoundsException.class, () -> x.back(64, 1));
        x.end(64 * 1023);
        CHECK.due("back with room for 64", x.back(-1, 0), 65536);
        CHECK.dueThrow("back with no room", x, IllegalStateException.class, () -> x.back(-1, 0));
        x.end(65536 - 32);
        CHECK.dueThrow("back of 64 with room for 32", x, IllegalStateException.class, () -> x.back(-1, 0));
        x.open(0, 0);
        CHECK.due("back of 32 with room for 32", x.back(-1, 0), 65536);
    }
}
