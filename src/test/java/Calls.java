/** Runs of calls that several tests begin with. */
final class Calls {
    private static final String LETTERS = "esEFGS";

    private Calls() {
    }

    /** A PATTERN by a text: messages with a blank between them, tokens e s E(ee) F(es) G(se) S(ss). */
    static int tell(StepShake x, boolean known, boolean other, String messages) {
        int number = x.pattern(known, other);
        for (String tokens : messages.split(" ", -1)) {
            x.message(number);
            for (char c : tokens.toCharArray()) {
                x.token(number, LETTERS.indexOf(c));
            }
        }
        return number;
    }

    static int faultOf(boolean known, boolean other, String messages) {
        StepShake x = new StepShake();
        return x.fault(tell(x, known, other, messages));
    }

    /** An object with one PATTERN and its SIDES 0, 1: s 5 and 7, e 50 and 70, each told the other one's s. */
    static StepShake pair(boolean known, boolean other, String messages) {
        StepShake x = new StepShake();
        tell(x, known, other, messages);
        x.side(0, 0, 5, 7, 50);
        x.side(0, 1, 7, 5, 70);
        return x;
    }

    /** The two SIDES of a pair go on until both are DONE. */
    static StepShake donePair(boolean known, boolean other, String messages) {
        StepShake x = pair(known, other, messages);
        for (int m = 0; m < x.told(0, 0); m++) {
            x.write(m & 1);
            x.read(1 - (m & 1));
        }
        return x;
    }

    static void feedAll(StepShake x, byte[] row) {
        for (byte b : row) {
            x.feed(b, 1);
        }
    }

    /** A row of bytes as byteOf tells it: 0 THE LETTER, 1 what was GOT, 2 THE TAPE. */
    static byte[] row(StepShake x, int what) {
        int[] counts = {3, 4, 2};
        byte[] out = new byte[x.count(counts[what])];
        for (int i = 0; i < out.length; i++) {
            out[i] = (byte) x.byteOf(what, i);
        }
        return out;
    }

    static byte[] h(StepShake x, int side) {
        byte[] out = new byte[32];
        for (int i = 0; i < 32; i++) {
            out[i] = (byte) x.hash(side, i);
        }
        return out;
    }

    /** Bytes of THE LETTER from a place on become others, by as many calls of alter. */
    static void put(StepShake x, int at, byte[] row) {
        for (int i = 0; i < row.length; i++) {
            x.alter(at + i, x.byteOf(0, at + i) ^ row[i] & 255);
        }
    }
}
