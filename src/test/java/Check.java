/** Compares answers with what is due, prints those that differ, and ends the program with 1 if there was one. */
final class Check {
    /** A call whose answer, or whose exception, is looked at. */
    interface Call {
        Object answer();
    }

    private static final int PRINTED_AT_MOST = 20;

    private int wrong;
    private int looked;

    void due(String what, Object got, Object want) {
        looked++;
        if (!want.equals(got)) {
            wrong++;
            if (wrong <= PRINTED_AT_MOST) {
                System.out.println(what + " answered " + got + ", due is " + want);
            }
        }
    }

    void due(String what, byte[] got, byte[] want) {
        due(what, Bytes.toHex(got), Bytes.toHex(want));
    }

    /** The call throws just this exception, and no count and no byte of THE RESULT changes. */
    void dueThrow(String what, CurveKeys x, Class<? extends RuntimeException> want, Call call) {
        String before = stateOf(x);
        due(what, outcome(call), want.getSimpleName());
        due("the state after " + what, stateOf(x), before);
    }

    /** What the call answers, or the name of what it throws. */
    static Object outcome(Call call) {
        try {
            return call.answer();
        } catch (RuntimeException e) {
            return e.getClass().getSimpleName();
        }
    }

    static String stateOf(CurveKeys x) {
        StringBuilder state = new StringBuilder();
        for (int what = 0; what <= 9; what++) {
            state.append(x.count(what)).append(' ');
        }
        return state.append(Bytes.toHex(Bytes.result(x))).toString();
    }

    void finish() {
        System.out.println(looked + " answers, " + wrong + " not as due");
        if (wrong != 0) {
            System.exit(1);
        }
    }
}
