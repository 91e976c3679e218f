import java.util.Arrays;
import java.util.function.Supplier;
import java.util.function.ToIntFunction;

/** Runs of calls that several tests begin with, and what they look at. An object gets no more than 512 calls. */
final class Calls {
    static final int MIN = Integer.MIN_VALUE, MAX = Integer.MAX_VALUE;
    private static final String LETTERS = "esEFGS";

    private Calls() {
    }

    /** A PATTERN by a text: messages with a blank between them, tokens e s E(ee) F(es) G(se) S(ss). */
    static int tell(StepShake x, boolean known, boolean other, String messages) {
        int number = x.pattern(known, other);
        for (String tokens : messages.split(" ", -1)) {
            x.message(number);
            for (char c : tokens.toCharArray()) {
                x.token(number, LETTERS.indexOf(c));
            }
        }
        return number;
    }

    /** An object with one PATTERN and its SIDES 0, 1: s 5 and 7, e 50 and 70, each told the other one's s. */
    static StepShake pair(boolean known, boolean other, String messages) {
        StepShake x = new StepShake();
        tell(x, known, other, messages);
        x.side(0, 0, 5, 7, 50);
        x.side(0, 1, 7, 5, 70);
        return x;
    }

    /** A pair that has gone through its first MESSAGES, each with an empty payload. */
    static StepShake pairAfter(int messages, boolean known, boolean other, String text) {
        StepShake x = pair(known, other, text);
        for (int m = 0; m < messages; m++) {
            x.write(m & 1);
            x.read(1 - (m & 1));
        }
        return x;
    }

    /** A pair whose two SIDES are DONE. */
    static StepShake donePair(boolean known, boolean other, String messages) {
        return pairAfter(messages.split(" ").length, known, other, messages);
    }

    static void feedAll(StepShake x, byte[] row) {
        for (byte b : row) {
            x.feed(b, 1);
        }
    }

    /** THE TAPE of an object becomes 64 bytes, if it was empty. */
    static void feedFull(StepShake x) {
        for (int i = 0; i < 8; i++) {
            x.feed(0x0123456789abcdefL * (i + 1), 8);
        }
    }

    /** A row of bytes as byteOf tells it: 0 THE LETTER, 1 what was GOT, 2 THE TAPE. */
    static byte[] row(StepShake x, int what) {
        int[] counts = {3, 4, 2};
        byte[] out = new byte[x.count(counts[what])];
        for (int i = 0; i < out.length; i++) {
            out[i] = (byte) x.byteOf(what, i);
        }
        return out;
    }

    static byte[] h(StepShake x, int side) {
        byte[] out = new byte[32];
        for (int i = 0; i < 32; i++) {
            out[i] = (byte) x.hash(side, i);
        }
        return out;
    }

    /** What h and ck begin with. */
    static byte[] name() {
        return Arrays.copyOf("Handshake by steps".getBytes(), 32);
    }

    static byte[] publicOf(int v, int j) {
        return Published.publicOf(Published.secret(v, j));
    }

    static void isRow(Check check, String what, byte[] got, byte[] want) {
        check.holds(what + " is as due", Arrays.equals(got, want));
    }

    /**
     * A call is answered as due and changes nothing: an object that got it looks and goes on like one that did not.
     * Each object gets some 350 calls beside the ones that make it.
     */
    static void refused(Check check, String call, int want, Supplier<StepShake> maker,
            ToIntFunction<StepShake> made) {
        StepShake x = maker.get();
        StepShake y = maker.get();
        check.due(call, made.applyAsInt(x), want);
        check.holds(call + " changes nothing that is seen", seen(x).equals(seen(y)));
        check.holds(call + " changes nothing of what comes", comes(x).equals(comes(y)));
    }

    private static String seen(StepShake x) {
        StringBuilder text = new StringBuilder();
        for (int what = 0; what <= 4; what++) {
            text.append(x.count(what)).append(' ');
        }
        for (int p = 0; p < x.count(0); p++) {
            text.append("p ").append(x.fault(p)).append(' ');
            for (int what = 0; what < 3; what++) {
                text.append(x.told(p, what)).append(' ');
            }
            for (int m = 0; m < x.told(p, 0); m++) {
                text.append(x.told(p, 3 + 6 * m + 5)).append(' ');
            }
        }
        for (int side = 0; side < x.count(1); side++) {
            text.append("s ").append(x.about(side, 0)).append(' ').append(x.about(side, 1)).append(' ');
        }
        for (byte b : row(x, 2)) {
            text.append(b).append(' ');
        }
        return text.append(x.digest()).toString();
    }

    private static String comes(StepShake x) {
        StringBuilder text = new StringBuilder();
        int sides = x.count(1);
        for (int side = 0; side < sides; side++) {
            text.append(x.read(side)).append(' ');
        }
        for (int i = 0; i < 12 && sides > 0; i++) {
            text.append(x.feed(i, 1)).append(' ').append(x.write(i % sides)).append(' ');
            for (int side = 0; side < sides; side++) {
                text.append(x.read(side)).append(' ');
            }
            text.append(x.digest()).append(' ');
        }
        for (int p = 0; p < x.count(0); p++) {
            text.append(x.token(p, 0)).append(' ').append(x.message(p)).append(' ');
        }
        text.append(x.pattern(true, false)).append(' ').append(x.side(0, 0, 5, 7, 50)).append(' ');
        for (int i = 0; i < 10; i++) {
            text.append(x.feed(i, 8)).append(' ');
        }
        return text.append(x.digest()).toString();
    }
}
