/** Promise 12: alter. */
public final class P12AlterTest {
    private static final Check check = new Check("P12AlterTest");

    public static void main(String[] args) {
        noLetter();
        badPlace();
        badNumber();
        firstAndLast();
        everyNumber();
        twiceIsAsBefore();
        onlyThatByte();
        behindACut();
        longestLetter();
        notWhatWasGot();
        check.end();
    }

    /** THE LETTER is e and the bytes fe 01; GOT is empty, THE TAPE has a byte. */
    private static StepShake withLetter() {
        StepShake x = Calls.pair(false, false, "e eE");
        x.feed(0xfe01, 2);
        x.write(0);
        x.feed(5, 1);
        return x;
    }

    private static void noLetter() {
        for (int i : new int[] {Calls.MIN, -1, 0, 1, Calls.MAX}) {
            check.due("alter(" + i + ", 0) without a letter", new StepShake().alter(i, 0), -2);
        }
    }

    private static void badPlace() {
        for (int i : new int[] {Calls.MIN, -1, 34, 35, 160, Calls.MAX}) {
            Calls.refused(check, "alter(" + i + ", 1)", -2, P12AlterTest::withLetter, x -> x.alter(i, 1));
        }
    }

    private static void badNumber() {
        for (int by : new int[] {Calls.MIN, -256, -1, 256, 257, Calls.MAX}) {
            Calls.refused(check, "alter(33, " + by + ")", -2, P12AlterTest::withLetter, x -> x.alter(33, by));
        }
        check.due("a bad number at a bad place", withLetter().alter(34, 256), -2);
    }

    private static void firstAndLast() {
        StepShake x = withLetter();
        int first = Calls.publicOf(50, 1)[0] & 255;
        check.due("the first byte", x.alter(0, 3), first);
        check.due("what it became", x.byteOf(0, 0), first ^ 3);
        check.due("the last byte", x.alter(33, 2), 1);
        check.due("what it became", x.byteOf(0, 33), 3);
    }

    private static void everyNumber() {
        StepShake x = withLetter();
        int now = 0xfe;
        for (int by = 0; by <= 255; by++) {
            check.due("alter(32, " + by + ")", x.alter(32, by), now);
            now ^= by;
        }
        check.due("what it became", x.byteOf(0, 32), now);
    }

    private static void twiceIsAsBefore() {
        StepShake x = withLetter();
        long before = x.digest();
        x.alter(7, 0x5a);
        check.holds("another digest", x.digest() != before);
        x.alter(7, 0x5a);
        check.due("digest", x.digest(), before);
        x.alter(7, 0);
        check.due("0 changes nothing", x.digest(), before);
    }

    private static void onlyThatByte() {
        StepShake x = withLetter();
        byte[] want = Calls.row(x, 0);
        x.alter(16, 255);
        want[16] ^= (byte) 255;
        Calls.isRow(check, "THE LETTER", Calls.row(x, 0), want);
        check.due("THE TAPE", x.byteOf(2, 0), 5);
    }

    private static void behindACut() {
        StepShake x = withLetter();
        x.cut(33);
        check.due("what is cut off", x.alter(33, 1), -2);
        check.due("the last that is left", x.alter(32, 1), 0xfe);
        x.cut(0);
        check.due("nothing is left", x.alter(0, 1), -2);
    }

    private static void longestLetter() {
        StepShake x = Calls.pair(false, true, "eFsS eEG");
        Calls.feedFull(x);
        x.write(0);
        int last = x.byteOf(0, 159);
        check.due("the last of 160", x.alter(159, 255), last);
        check.due("what it became", x.byteOf(0, 159), last ^ 255);
        check.due("behind it", x.alter(160, 1), -2);
    }

    private static void notWhatWasGot() {
        StepShake x = withLetter();
        x.read(1);
        x.alter(32, 0x0f);
        check.due("what was GOT", x.byteOf(1, 0), 0xfe);
        check.due("THE LETTER", x.byteOf(0, 32), 0xf1);
    }
}
