import java.math.BigInteger;
import java.nio.ByteBuffer;
import java.util.Arrays;
import java.util.Random;

/** All promises: long runs of calls, drawn by fixed seeds, answer as the Model does. */
public final class RandomRunsTest {
    private static final int RUNS = 24;
    private static final int CALLS = 512;
    private static final Check CHECK = new Check();
    private static final byte[][] ROWS = specialRows();

    private final Random random;
    private final String name;
    private final CurveKeys x = new CurveKeys();
    private final Model model = new Model();
    private int calls;

    private RandomRunsTest(int seed) {
        random = new Random(seed);
        name = "run " + seed + ": ";
    }

    public static void main(String[] args) {
        for (int seed = 0; seed < RUNS; seed++) {
            new RandomRunsTest(seed).run();
        }
        CHECK.finish();
    }

    /** Numbers at the edges of the field, points of small order in both shapes, and the order of the base. */
    private static byte[][] specialRows() {
        BigInteger[][] small = Reference.smallOrderPoints();
        BigInteger[] numbers = {
            Reference.ZERO, Reference.ONE, Reference.number(9), Reference.L, Reference.P,
            Reference.P.subtract(Reference.ONE), Reference.P.add(Reference.ONE), Reference.ONE.setBit(255),
            Reference.P.subtract(Reference.ONE).setBit(255), Reference.ONE.shiftLeft(256).subtract(Reference.ONE)};
        byte[][] rows = new byte[numbers.length + small.length][];
        for (int i = 0; i < rows.length; i++) {
            rows[i] = i < numbers.length
                    ? Bytes.ofNumber(numbers[i])
                    : Reference.encode(small[i - numbers.length]);
        }
        return rows;
    }

    private void run() {
        while (calls < CALLS) {
            switch (random.nextInt(8)) {
                case 0 -> tape(row());
                case 1 -> makeKeyOrPoint();
                case 2 -> claim();
                case 3 -> agree();
                default -> anyCall();
            }
        }
        for (int what = -1; what <= 10; what++) {
            int asked = what;
            compare("count(" + what + ")", () -> x.count(asked), () -> model.count(asked));
        }
        for (int i = -1; i <= model.count(3); i++) {
            int asked = i;
            compare("result(" + i + ")", () -> x.result(asked), () -> model.result(asked));
        }
    }

    private byte[] row() {
        return random.nextBoolean() ? Bytes.random(random, 32) : ROWS[random.nextInt(ROWS.length)];
    }

    private int place() {
        return random.nextInt(70) - 3;
    }

    private int key() {
        return random.nextInt(model.count(1) + 1) - random.nextInt(20) / 19;
    }

    private void makeKeyOrPoint() {
        end(0);
        tape(row());
        if (random.nextBoolean()) {
            compare("key()", x::key, model::key);
        } else {
            compare("point()", x::point, model::point);
        }
    }

    private void agree() {
        int mine = key();
        int other = key();
        end(0);
        if (random.nextBoolean()) {
            open(other, random.nextInt(2));
            back(random.nextInt(4) == 0 ? place() : -1);
        } else {
            tape(row());
        }
        compare("agree(" + mine + ")", () -> x.agree(mine), () -> model.agree(mine));
    }

    /** A public key and a signature, often right, sometimes with a wrong byte or a special row in one of the parts. */
    private void claim() {
        int signer = key();
        end(0);
        if (random.nextInt(3) == 0) {
            tape(row());
        } else {
            open(signer, random.nextInt(9) == 0 ? 0 : 1);
            back(random.nextInt(6) == 0 ? place() : -1);
        }
        if (random.nextInt(3) == 0) {
            tape(row());
            tape(random.nextBoolean() ? new byte[32] : row());
        } else {
            sign(signer);
            back(random.nextInt(4) == 0 ? place() : -1);
        }
        compare("verify()", x::verify, model::verify);
    }

    private void anyCall() {
        switch (random.nextInt(10)) {
            case 0 -> compare("message()", x::message, model::message);
            case 1 -> sign(key());
            case 2 -> open(key(), random.nextInt(4) - 1);
            case 3 -> back(place());
            case 4 -> end(random.nextInt(model.count(0) + 3) - 1);
            case 5 -> compare("key()", x::key, model::key);
            case 6 -> compare("verify()", x::verify, model::verify);
            case 7 -> compare("point()", x::point, model::point);
            case 8 -> {
                int what = random.nextInt(12) - 1;
                compare("count(" + what + ")", () -> x.count(what), () -> model.count(what));
            }
            default -> {
                int i = place();
                compare("result(" + i + ")", () -> x.result(i), () -> model.result(i));
            }
        }
    }

    private void tape(byte[] row) {
        ByteBuffer padded = ByteBuffer.wrap(Arrays.copyOf(row, row.length + 20));
        int due = model.count(0) + row.length;
        for (int at = 0; at < row.length; at += 20) {
            int[] n = new int[5];
            for (int i = 0; i < 5; i++) {
                n[i] = padded.getInt(at + 4 * i);
            }
            compare("feed", () -> x.feed(n[0], n[1], n[2], n[3], n[4]), () -> model.feed(n));
        }
        end(due);
    }

    private void end(int n) {
        compare("end(" + n + ")", () -> x.end(n), () -> model.end(n));
    }

    private void open(int key, int shape) {
        compare("open(" + key + ", " + shape + ")", () -> {
            x.open(key, shape);
            return "";
        }, () -> {
            model.open(key, shape);
            return "";
        });
    }

    private void sign(int key) {
        compare("sign(" + key + ")", () -> {
            x.sign(key);
            return "";
        }, () -> {
            model.sign(key);
            return "";
        });
    }

    private void back(int at) {
        int with = random.nextInt();
        compare("back(" + at + ", " + with + ")", () -> x.back(at, with), () -> model.back(at, with));
    }

    private void compare(String call, Check.Call got, Check.Call due) {
        calls++;
        CHECK.due(name + call, Check.outcome(got), Check.outcome(due));
    }
}
