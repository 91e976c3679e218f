/** Promise 9: feed. */
public final class P09FeedTest {
    private static final Check check = new Check("P09FeedTest");

    public static void main(String[] args) {
        everySize();
        lowestBytesHighestFirst();
        negativeNumbers();
        howMany();
        badSize();
        upToSixtyFour();
        aboveSixtyFour();
        badGoesAheadOfFull();
        afterWrite();
        check.end();
    }

    private static StepShake withBytes(int many) {
        StepShake x = new StepShake();
        for (int i = 0; i < many; i++) {
            x.feed(i, 1);
        }
        return x;
    }

    private static void everySize() {
        byte[] all = Published.bytes("f1e2d3c4b5a69788");
        for (int n = 1; n <= 8; n++) {
            StepShake x = new StepShake();
            check.due("feed of " + n, x.feed(0xf1e2d3c4b5a69788L, n), n);
            Calls.isRow(check, "THE TAPE of " + n, Calls.row(x, 2), Published.part(all, 8 - n, 8));
        }
    }

    private static void lowestBytesHighestFirst() {
        StepShake x = new StepShake();
        x.feed(0x1122334455667788L, 3);
        x.feed(0x01020304, 2);
        x.feed(0x0908070605040302L, 8);
        Calls.isRow(check, "THE TAPE", Calls.row(x, 2), Published.bytes("66778803040908070605040302"));
    }

    private static void negativeNumbers() {
        StepShake x = new StepShake();
        x.feed(-1, 8);
        x.feed(Long.MIN_VALUE, 8);
        x.feed(-2, 1);
        x.feed(Long.MAX_VALUE, 8);
        x.feed(0, 1);
        Calls.isRow(check, "THE TAPE", Calls.row(x, 2),
                Published.bytes("ffffffffffffffff8000000000000000fe7fffffffffffffff00"));
        check.due("a byte is 0 .. 255", x.byteOf(2, 0), 255);
        check.due("and 128", x.byteOf(2, 8), 128);
    }

    private static void howMany() {
        StepShake x = new StepShake();
        int all = 0;
        for (int n : new int[] {1, 8, 3, 2, 7, 5, 6, 4}) {
            all += n;
            check.due("feed of " + n + " more", x.feed(n, n), all);
            check.due("count(2)", x.count(2), all);
        }
    }

    private static void badSize() {
        for (int n : new int[] {Calls.MIN, -8, -1, 0, 9, 10, 64, 256 + 1, Calls.MAX}) {
            Calls.refused(check, "feed(5, " + n + ")", -2, () -> withBytes(3), x -> x.feed(5, n));
        }
    }

    private static void upToSixtyFour() {
        for (int n = 1; n <= 8; n++) {
            check.due("feed of " + n + " up to 64", withBytes(64 - n).feed(7, n), 64);
        }
        StepShake x = new StepShake();
        Calls.feedFull(x);
        check.due("eight times eight", x.count(2), 64);
        check.due("the last byte", x.byteOf(2, 63), 0x0123456789abcdefL * 8 & 255);
    }

    private static void aboveSixtyFour() {
        for (int n = 1; n <= 8; n++) {
            int size = n;
            Calls.refused(check, "feed of " + n + " up to 65", -4, () -> withBytes(65 - size), x -> x.feed(7, size));
            Calls.refused(check, "feed of " + n + " to a full tape", -4, () -> withBytes(64), x -> x.feed(7, size));
        }
        StepShake x = withBytes(60);
        check.due("five more", x.feed(0, 5), -4);
        check.due("four more are not too many", x.feed(0, 4), 64);
    }

    private static void badGoesAheadOfFull() {
        check.due("feed of 9 to a full tape", withBytes(64).feed(0, 9), -2);
        check.due("feed of 0 to a full tape", withBytes(64).feed(0, 0), -2);
        check.due("feed of the greatest int", withBytes(64).feed(0, Calls.MAX), -2);
    }

    private static void afterWrite() {
        StepShake x = Calls.pair(false, false, "e eE");
        Calls.feedFull(x);
        check.due("a full tape", x.feed(1, 1), -4);
        check.due("write", x.write(0), 96);
        check.due("feed after that", x.feed(0xabcd, 2), 2);
        check.due("its first byte", x.byteOf(2, 0), 0xab);
        check.due("nothing else is left", x.byteOf(2, 2), -1);
    }
}
