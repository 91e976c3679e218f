/** Promise 20: digest. */
public final class P20DigestTest {
    private static final Check check = new Check("P20DigestTest");

    public static void main(String[] args) {
        ofNothing();
        whatDoesNotCount();
        oneSideByHand();
        sidesInTheirOrder();
        letterAheadOfGot();
        stepByStep();
        fourSides();
        changesNothing();
        check.end();
    }

    private static long sidesByCalls(StepShake x) {
        long h = 67;
        for (int side = 0; side < x.count(1); side++) {
            for (int what = 2; what <= 8; what++) {
                h = 31 * h + x.about(side, what);
            }
            for (byte b : Calls.h(x, side)) {
                h = 31 * h + (b & 255);
            }
        }
        return h;
    }

    private static long byCalls(StepShake x) {
        long h = sidesByCalls(x);
        for (int what = 0; what <= 1; what++) {
            for (byte b : Calls.row(x, what)) {
                h = 31 * h + (b & 255);
            }
        }
        return h;
    }

    private static void ofNothing() {
        check.due("digest of a new object", new StepShake().digest(), 67);
    }

    private static void whatDoesNotCount() {
        StepShake x = new StepShake();
        x.feed(1, 1);
        x.pattern(true, true);
        check.due("THE TAPE and PATTERNS", x.digest(), 67);
        x = Calls.pair(false, false, "e eE");
        long before = x.digest();
        x.feed(1, 8);
        x.pattern(true, true);
        x.message(1);
        x.key(1, 1, 1);
        check.due("THE TAPE and PATTERNS beside SIDES", x.digest(), before);
    }

    /** 39 steps of 31, which go round the long's range. */
    private static void oneSideByHand() {
        StepShake x = new StepShake();
        Calls.tell(x, false, false, "e eE");
        x.side(0, 0, -1, 4, 1);
        long h = 67;
        for (int v : new int[] {0, 0, 0, 0, 0, 1, 0}) {
            h = 31 * h + v;
        }
        for (byte b : Calls.name()) {
            h = 31 * h + b;
        }
        check.due("digest of one side", x.digest(), h);
    }

    private static void sidesInTheirOrder() {
        StepShake x = new StepShake();
        Calls.tell(x, true, false, "e eE");
        x.side(0, 0, 5, -1, 1);
        x.side(0, 1, -1, 6, 1);
        check.due("digest of two sides", x.digest(), byCalls(x));
    }

    private static void letterAheadOfGot() {
        StepShake x = Calls.pair(false, false, "e eE");
        x.feed(0x010203, 3);
        x.write(0);
        check.due("a letter and nothing GOT", x.digest(), byCalls(x));
        x.read(1);
        x.cut(1);
        long sides = sidesByCalls(x);
        long letter = 31 * sides + x.byteOf(0, 0);
        check.due("a letter of one byte and 1 2 3 GOT", x.digest(), ((letter * 31 + 1) * 31 + 2) * 31 + 3);
        x.cut(0);
        check.due("no letter and 1 2 3 GOT", x.digest(), ((sides * 31 + 1) * 31 + 2) * 31 + 3);
    }

    private static void stepByStep() {
        for (int m = 0; m < 5; m++) {
            StepShake x = Calls.pairAfter(m, false, false, "e eEsF sG");
            x.feed(0xabcdef, 3);
            x.write(m & 1);
            check.due("digest after write " + m, x.digest(), byCalls(x));
            x = Calls.pairAfter(m, false, false, "e eEsF sG");
            x.feed(0xabcdef, 3);
            x.write(m & 1);
            x.read(1 - (m & 1));
            check.due("digest after read " + m, x.digest(), byCalls(x));
        }
    }

    private static void fourSides() {
        StepShake x = Calls.donePair(true, true, "eFS eEG");
        x.side(0, 0, 5, 7, 51);
        x.side(0, 1, 7, 5, 71);
        x.write(0);
        x.write(2);
        x.read(3);
        check.due("digest of four sides", x.digest(), byCalls(x));
    }

    private static void changesNothing() {
        StepShake x = Calls.donePair(false, false, "e eE");
        check.due("digest twice", x.digest(), x.digest());
        long want = Calls.pairAfter(1, false, false, "e eE").digest();
        StepShake y = Calls.pairAfter(1, false, false, "e eE");
        check.due("digest of another object that got the same calls", y.digest(), want);
        y.write(1);
        check.due("read behind digest", y.read(0), 0);
    }
}
