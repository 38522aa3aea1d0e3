import java.util.function.Consumer;
import java.util.function.Supplier;

/** Compares answers with what is due, prints those that differ, and ends the program with 1 if there was one. */
final class Check {
    /** A call whose answer, or whose exception, is looked at. */
    interface Call {
        Object answer();
    }

    private static final int PRINTED_AT_MOST = 20;

    private int wrong;
    private int looked;

    void due(String what, Object got, Object want) {
        looked++;
        if (!want.equals(got)) {
            wrong++;
            if (wrong <= PRINTED_AT_MOST) {
                System.out.println(what + " answered " + got + ", due is " + want);
            }
        }
    }

    void due(String what, byte[] got, byte[] want) {
        due(what, Bytes.toHex(got), Bytes.toHex(want));
    }

    /** The call throws just this exception, and the object holds what one made alike holds that was not called so. */
    void dueRefusal(String what, Supplier<CurveKeys> made, Class<? extends RuntimeException> want,
            Consumer<CurveKeys> call) {
        CurveKeys x = made.get();
        due(what, outcome(() -> {
            call.accept(x);
            return "nothing thrown";
        }), want.getSimpleName());
        due("all that is held after " + what, Insight.into(x), Insight.into(made.get()));
    }

    /** What the call answers, or the name of what it throws. */
    static Object outcome(Call call) {
        try {
            return call.answer();
        } catch (RuntimeException e) {
            return e.getClass().getSimpleName();
        }
    }

    void finish() {
        System.out.println(looked + " answers, " + wrong + " not as due");
        if (wrong != 0) {
            System.exit(1);
        }
    }
}
