/** Promise 13: cut. */
public final class P13CutTest {
    private static final Check check = new Check("P13CutTest");

    public static void main(String[] args) {
        noLetter();
        below();
        above();
        allStays();
        allGoes();
        everySize();
        firstBytesStay();
        notToMoreAgain();
        restOfTheObjectStays();
        check.end();
    }

    private static StepShake withLetter() {
        StepShake x = Calls.pair(false, false, "e eE");
        x.feed(0xfe01, 2);
        x.write(0);
        x.read(1);
        x.feed(5, 1);
        return x;
    }

    private static void noLetter() {
        check.due("cut(0)", new StepShake().cut(0), 0);
        for (int n : new int[] {Calls.MIN, -1, 1, Calls.MAX}) {
            check.due("cut(" + n + ") without a letter", new StepShake().cut(n), -2);
        }
    }

    private static void below() {
        for (int n : new int[] {Calls.MIN, -2, -1}) {
            Calls.refused(check, "cut(" + n + ")", -2, P13CutTest::withLetter, x -> x.cut(n));
        }
    }

    private static void above() {
        for (int n : new int[] {35, 36, 160, Calls.MAX}) {
            Calls.refused(check, "cut(" + n + ") of 34", -2, P13CutTest::withLetter, x -> x.cut(n));
        }
    }

    private static void allStays() {
        Calls.refused(check, "cut(34) of 34", 0, P13CutTest::withLetter, x -> x.cut(34));
    }

    private static void allGoes() {
        StepShake x = withLetter();
        check.due("cut(0)", x.cut(0), 34);
        check.due("count(3)", x.count(3), 0);
        check.due("byteOf(0, 0)", x.byteOf(0, 0), -1);
        check.due("cut(0) once more", x.cut(0), 0);
    }

    private static void everySize() {
        for (int n = 0; n <= 34; n++) {
            StepShake x = withLetter();
            check.due("cut(" + n + ")", x.cut(n), 34 - n);
            check.due("count(3)", x.count(3), n);
        }
        StepShake x = withLetter();
        for (int n = 33; n >= 0; n--) {
            check.due("one byte more, to " + n, x.cut(n), 1);
        }
    }

    private static void firstBytesStay() {
        StepShake x = withLetter();
        byte[] before = Calls.row(x, 0);
        x.cut(20);
        Calls.isRow(check, "THE LETTER", Calls.row(x, 0), Published.part(before, 0, 20));
        check.due("what is cut off", x.byteOf(0, 20), -1);
    }

    private static void notToMoreAgain() {
        StepShake x = withLetter();
        x.cut(20);
        check.due("cut to more", x.cut(21), -2);
        check.due("cut to as many", x.cut(20), 0);
        check.due("count(3)", x.count(3), 20);
    }

    private static void restOfTheObjectStays() {
        StepShake x = withLetter();
        x.cut(33);
        check.due("what was GOT", x.count(4), 2);
        check.due("THE TAPE", x.count(2), 1);
        check.due("about(1, 2)", x.about(1, 2), 1);
        x.again(1);
        check.due("the reader has what is left", x.read(1), 1);
    }
}
