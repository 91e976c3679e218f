/** Promise 14: byteOf. */
public final class P14ByteOfTest {
    private static final Check check = new Check("P14ByteOfTest");

    public static void main(String[] args) {
        badWhat();
        badGoesFirst();
        emptyRows();
        letter();
        got();
        tape();
        below();
        fullRows();
        bytesAreNotSigned();
        changesNothing();
        check.end();
    }

    /** THE LETTER has 34 bytes, the last two being ff 7f, which are GOT; THE TAPE is 80 00 01. */
    private static StepShake withRows() {
        StepShake x = Calls.pair(false, false, "e eE");
        x.feed(0xff7f, 2);
        x.write(0);
        x.read(1);
        x.feed(0x800001, 3);
        return x;
    }

    private static void badWhat() {
        for (int what : new int[] {Calls.MIN, -2, -1, 3, 4, Calls.MAX}) {
            check.due("byteOf(" + what + ", 0)", withRows().byteOf(what, 0), -2);
        }
    }

    private static void badGoesFirst() {
        for (int i : new int[] {Calls.MIN, -1, 34, Calls.MAX}) {
            check.due("byteOf(3, " + i + ")", withRows().byteOf(3, i), -2);
            check.due("byteOf(-1, " + i + ") of nothing", new StepShake().byteOf(-1, i), -2);
        }
    }

    private static void emptyRows() {
        for (int what = 0; what <= 2; what++) {
            for (int i : new int[] {Calls.MIN, -1, 0, 1, Calls.MAX}) {
                check.due("byteOf(" + what + ", " + i + ") of nothing", new StepShake().byteOf(what, i), -1);
            }
        }
    }

    private static void letter() {
        StepShake x = withRows();
        check.due("the first", x.byteOf(0, 0), Calls.publicOf(50, 1)[0] & 255);
        check.due("the last", x.byteOf(0, 33), 0x7f);
        check.due("one behind", x.byteOf(0, 34), -1);
        check.due("far behind", x.byteOf(0, Calls.MAX), -1);
        x.cut(33);
        check.due("what is cut off", x.byteOf(0, 33), -1);
    }

    private static void got() {
        StepShake x = withRows();
        check.due("the first", x.byteOf(1, 0), 0xff);
        check.due("the last", x.byteOf(1, 1), 0x7f);
        check.due("one behind", x.byteOf(1, 2), -1);
        check.due("far behind", x.byteOf(1, Calls.MAX), -1);
    }

    private static void tape() {
        StepShake x = withRows();
        check.due("the first", x.byteOf(2, 0), 0x80);
        check.due("the last", x.byteOf(2, 2), 1);
        check.due("one behind", x.byteOf(2, 3), -1);
        check.due("far behind", x.byteOf(2, Calls.MAX), -1);
        x.write(1);
        check.due("once it is written", x.byteOf(2, 0), -1);
    }

    /** Only what is BAD here. */
    private static void below() {
        for (int what = 0; what <= 2; what++) {
            check.due("byteOf(" + what + ", -1)", withRows().byteOf(what, -1), -1);
            check.due("byteOf(" + what + ", least)", withRows().byteOf(what, Calls.MIN), -1);
        }
    }

    private static void fullRows() {
        StepShake x = Calls.donePair(false, true, "eFsS eEG");
        Calls.feedFull(x);
        check.due("THE TAPE's last", x.byteOf(2, 63), 0x0123456789abcdefL * 8 & 255);
        check.due("behind THE TAPE", x.byteOf(2, 64), -1);
        x.write(0);
        x.read(1);
        check.due("GOT's last", x.byteOf(1, 63), 0x0123456789abcdefL * 8 & 255);
        check.due("behind GOT", x.byteOf(1, 64), -1);
        check.due("behind THE LETTER", x.byteOf(0, 80), -1);
        check.holds("THE LETTER's last is a byte", x.byteOf(0, 79) >= 0 && x.byteOf(0, 79) <= 255);
    }

    private static void bytesAreNotSigned() {
        StepShake x = Calls.pair(false, false, "e eE");
        for (int b = 0; b < 256; b += 51) {
            x.feed(b, 1);
        }
        x.write(0);
        x.read(1);
        for (int i = 0; i < 6; i++) {
            check.due("THE LETTER's byte " + i, x.byteOf(0, 32 + i), 51 * i);
            check.due("GOT's byte " + i, x.byteOf(1, i), 51 * i);
        }
    }

    private static void changesNothing() {
        Calls.refused(check, "byteOf(0, 34)", -1, P14ByteOfTest::withRows, x -> x.byteOf(0, 34));
        Calls.refused(check, "byteOf(3, 0)", -2, P14ByteOfTest::withRows, x -> x.byteOf(3, 0));
        Calls.refused(check, "byteOf(1, 0)", 0xff, P14ByteOfTest::withRows, x -> x.byteOf(1, 0));
    }
}
