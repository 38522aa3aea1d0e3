/** All that an object holds. Its bytes are told by what its KEYS make of them, so the object is used up by it. */
final class Insight {
    private Insight() {
    }

    static String into(CurveKeys x) {
        StringBuilder all = new StringBuilder(visible(x));
        for (int key = 0; key < x.count(1); key++) {
            x.open(key, 0);
            all.append(" open ").append(Bytes.toHex(Bytes.result(x)));
            x.open(key, 1);
            all.append(' ').append(Bytes.toHex(Bytes.result(x)));
            x.sign(key);
            all.append(" message ").append(Bytes.toHex(Bytes.result(x)));
        }
        x.message();
        if (x.count(1) == 0) {
            Bytes.makeKey(x, new byte[32]);
        }
        x.sign(0);
        return all.append(" tape ").append(Bytes.toHex(Bytes.result(x))).toString();
    }

    /** The counts and THE RESULT, which can be told without a change. */
    static String visible(CurveKeys x) {
        StringBuilder seen = new StringBuilder("counts");
        for (int what = 0; what <= 9; what++) {
            seen.append(' ').append(x.count(what));
        }
        return seen.append(" result ").append(Bytes.toHex(Bytes.result(x))).toString();
    }
}
