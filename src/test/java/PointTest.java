import java.math.BigInteger;
import java.util.Random;

/** Promise 10: point. */
public final class PointTest {
    private static final Check CHECK = new Check();

    public static void main(String[] args) {
        smallNumbersAndTheirSigns();
        numbersRoundThePrime();
        xOf0HasNoSign();
        pointsOfSmallOrder();
        randomNumbers();
        noPointTakesTheTapeAndLeavesTheResult();
        xHas32Bytes();
        pointIsRefusedWithout32Bytes();
        CHECK.finish();
    }

    private static void compareWithReference(BigInteger number) {
        CurveKeys x = new CurveKeys();
        byte[] bytes = Bytes.ofNumber(number);
        Bytes.feed(x, bytes);
        BigInteger[] due = Reference.decode(bytes);
        CHECK.due("point() of " + number, x.point(), due != null);
        CHECK.due("count(0) after point", x.count(0), 0);
        byte[] dueResult = due == null ? new byte[0] : Bytes.ofNumber(due[0]);
        CHECK.due("x of " + number, Bytes.result(x), dueResult);
    }

    private static void smallNumbersAndTheirSigns() {
        for (int y = 0; y < 100; y++) {
            compareWithReference(Reference.number(y));
            compareWithReference(Reference.number(y).setBit(255));
        }
    }

    private static void numbersRoundThePrime() {
        for (int above = -40; above <= 18; above++) {
            compareWithReference(Reference.P.add(Reference.number(above)));
            compareWithReference(Reference.P.add(Reference.number(above)).setBit(255));
        }
    }

    private static boolean isPoint(BigInteger number) {
        CurveKeys x = new CurveKeys();
        Bytes.feed(x, Bytes.ofNumber(number));
        return x.point();
    }

    private static void xOf0HasNoSign() {
        BigInteger minusOne = Reference.P.subtract(Reference.ONE);
        CHECK.due("y = 1", isPoint(Reference.ONE), true);
        CHECK.due("y = 1, signed", isPoint(Reference.ONE.setBit(255)), false);
        CHECK.due("y = -1", isPoint(minusOne), true);
        CHECK.due("y = -1, signed", isPoint(minusOne.setBit(255)), false);
        CHECK.due("y = 0", isPoint(Reference.ZERO), true);
        CHECK.due("y = 0, signed", isPoint(Reference.ZERO.setBit(255)), true);
        CHECK.due("y = p", isPoint(Reference.P), false);
        CHECK.due("y = p + 1", isPoint(Reference.P.add(Reference.ONE)), false);
    }

    private static void pointsOfSmallOrder() {
        for (BigInteger[] p : Reference.smallOrderPoints()) {
            compareWithReference(Bytes.toNumber(Reference.encode(p)));
        }
        compareWithReference(Bytes.toNumber(Reference.encode(Reference.BASE)));
    }

    private static void randomNumbers() {
        Random random = new Random(11);
        for (int i = 0; i < 400; i++) {
            compareWithReference(new BigInteger(256, random));
        }
    }

    private static void noPointTakesTheTapeAndLeavesTheResult() {
        CurveKeys x = Made.with(1, 0);
        byte[] signature = Bytes.result(x);
        Bytes.feed(x, Bytes.ofNumber(Reference.P));
        CHECK.due("point() of p", x.point(), false);
        CHECK.due("THE RESULT after it", Bytes.result(x), signature);
        CHECK.due("the TAPE after it", x.count(0), 0);
        CurveKeys y = new CurveKeys();
        Bytes.feed(y, Bytes.ofNumber(Reference.P));
        CHECK.due("point() of p, THE RESULT being empty", y.point(), false);
        CHECK.due("THE RESULT's length after it", y.count(3), 0);
        CHECK.due("the TAPE after it", y.count(0), 0);
    }

    /** An x of 0 is 32 bytes all the same, and a longer RESULT does not show behind it. */
    private static void xHas32Bytes() {
        CurveKeys x = Made.with(1, 0);
        Bytes.feed(x, Bytes.ofNumber(Reference.ONE));
        CHECK.due("point() of 1", x.point(), true);
        CHECK.due("x of 1", Bytes.result(x), new byte[32]);
        Bytes.feed(x, Reference.encode(Reference.BASE));
        CHECK.due("point() of the base", x.point(), true);
        CHECK.due("x of the base", Bytes.result(x),
                Bytes.ofHex("1ad5258f602d56c9b2a7259560c72c695cdcd6fd31e2a4c0fe536ecdd3366921"));
    }

    private static void pointIsRefusedWithout32Bytes() {
        for (int length : new int[] {0, 1, 31, 33, 64, 96, 65536}) {
            CHECK.dueRefusal("point() of " + length, () -> Made.with(1, length), IllegalArgumentException.class,
                    x -> x.point());
        }
    }
}
