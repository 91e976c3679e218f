/** Promise 8: again. */
public final class P08AgainTest {
    private static final Check check = new Check("P08AgainTest");

    public static void main(String[] args) {
        badSide();
        howManyMessagesItDid();
        atOnceAndTwice();
        beginsAsAtFirst();
        secretsEGoOn();
        manySecretsE();
        eReadIsForgotten();
        sReadIsForgotten();
        sToldComesBack();
        countsOfDoneBeginAnew();
        restOfTheObjectStays();
        patternStaysClosed();
        secondTimeEndsTheSame();
        onlyOneBeginsAnew();
        check.end();
    }

    private static void badSide() {
        check.due("again(0) without sides", new StepShake().again(0), -2);
        for (int side : new int[] {Calls.MIN, -1, 2, 4, Calls.MAX}) {
            Calls.refused(check, "again(" + side + ")", -2, () -> Calls.pairAfter(1, false, false, "e eE"),
                    x -> x.again(side));
        }
    }

    private static void howManyMessagesItDid() {
        for (int m = 0; m <= 6; m++) {
            for (int side = 0; side < 2; side++) {
                StepShake x = Calls.pairAfter(m, true, true, "e e E F G S");
                check.due("again(" + side + ") after " + m, x.again(side), m);
            }
        }
        StepShake x = Calls.pair(false, false, "e eE");
        x.write(0);
        check.due("again of who wrote", x.again(0), 1);
        check.due("again of who did not read", x.again(1), 0);
    }

    private static void atOnceAndTwice() {
        StepShake x = Calls.donePair(false, false, "e eE");
        check.due("again of what is DONE", x.again(0), 2);
        check.due("again at once", x.again(0), 0);
        check.due("and once more", x.again(0), 0);
        x = Calls.donePair(false, false, "e eE");
        x.write(1);
        x.write(1);
        check.due("letters of what is DONE are no MESSAGES", x.again(1), 2);
    }

    private static void beginsAsAtFirst() {
        for (int known = 0; known < 4; known++) {
            boolean first = (known & 1) != 0, second = (known & 2) != 0;
            for (int side = 0; side < 2; side++) {
                StepShake x = Calls.donePair(first, second, "e eE");
                x.write(side);
                x.again(side);
                int[] want = {0, side, 0, 0, 0, 0, 0, 1, 1};
                for (int what = 0; what <= 8; what++) {
                    check.due("about(" + side + ", " + what + ") begun anew", x.about(side, what), want[what]);
                }
                Calls.isRow(check, "h begun anew, known " + known, Calls.h(x, side),
                        Calls.h(Calls.pair(first, second, "e eE"), side));
            }
        }
        StepShake x = Calls.donePair(false, false, "e eE");
        x.again(0);
        check.due("whose turn it is", x.read(0), -3);
        x.again(1);
        check.due("whose turn it is not", x.write(1), -3);
        x.write(0);
        Calls.isRow(check, "e is sent plain, with no k left", Calls.row(x, 0), Calls.publicOf(50, 2));
    }

    private static void secretsEGoOn() {
        StepShake x = Calls.pair(false, false, "e eE");
        for (int j = 1; j <= 4; j++) {
            check.due("secrets used", x.about(0, 8), j - 1);
            x.write(0);
            Calls.isRow(check, "HAND 0's e " + j, Calls.row(x, 0), Calls.publicOf(50, j));
            x.read(1);
            x.write(1);
            Calls.isRow(check, "HAND 1's e " + j, Published.part(Calls.row(x, 0), 0, 32), Calls.publicOf(70, j));
            check.due("again(0)", x.again(0), 1);
            check.due("again(1)", x.again(1), 2);
        }
        check.due("secrets used by HAND 1", x.about(1, 8), 4);
        x.again(0);
        check.due("again uses none", x.about(0, 8), 4);
    }

    private static void manySecretsE() {
        StepShake x = new StepShake();
        Calls.tell(x, false, false, "e");
        x.side(0, 0, -1, -1, -7);
        for (int j = 1; j < 200; j++) {
            x.write(0);
            x.again(0);
        }
        check.due("secrets used", x.about(0, 8), 199);
        x.write(0);
        Calls.isRow(check, "the 200th e", Calls.row(x, 0), Calls.publicOf(-7, 200));
    }

    private static void eReadIsForgotten() {
        StepShake x = Calls.pairAfter(1, false, false, "e eE");
        check.due("e is known once read", x.about(1, 6), 1);
        x.again(1);
        check.due("e read is forgotten", x.about(1, 6), 0);
    }

    private static StepShake readers() {
        StepShake x = new StepShake();
        Calls.tell(x, false, false, "es eEG");
        x.side(0, 0, 1, -1, 10);
        x.side(0, 1, -1, -1, 20);
        x.side(0, 1, -1, 9, 20);
        x.write(0);
        x.read(1);
        x.read(2);
        return x;
    }

    private static void sReadIsForgotten() {
        StepShake x = readers();
        check.due("s is known once read", x.about(1, 7), 1);
        x.again(1);
        check.due("s read is forgotten", x.about(1, 7), 0);
        check.due("it reads the letter again", x.read(1), 0);
        check.due("and knows s again", x.about(1, 7), 1);
    }

    private static void sToldComesBack() {
        StepShake x = readers();
        check.due("s is known, told and read", x.about(2, 7), 1);
        x.again(2);
        check.due("s told is known still", x.about(2, 7), 1);
        // Known ahead: es is done with the one that was told, time after time.
        x = Calls.donePair(false, true, "eF eE");
        for (int i = 0; i < 3; i++) {
            x.again(0);
            x.again(1);
            x.write(0);
            check.due("the told s holds, time " + i, x.read(1), 0);
        }
    }

    private static void countsOfDoneBeginAnew() {
        StepShake x = Calls.donePair(false, false, "e eE");
        for (int i = 0; i < 3; i++) {
            x.write(0);
            x.read(1);
            x.write(1);
            x.read(0);
        }
        check.due("n", x.about(0, 5), 3);
        x.again(0);
        x.again(1);
        check.due("n begun anew", x.about(0, 5), 0);
        for (int m = 0; m < 2; m++) {
            x.write(m);
            x.read(1 - m);
        }
        check.due("n, DONE a second time", x.about(0, 5), 0);
        x.write(0);
        check.due("who reads begins at 0", x.read(1), 0);
        x.write(1);
        check.due("the other way", x.read(0), 0);
    }

    private static void restOfTheObjectStays() {
        StepShake x = Calls.pair(false, false, "e eE");
        x.feed(0x010203, 3);
        x.write(0);
        x.read(1);
        x.feed(0x0405, 2);
        byte[] letter = Calls.row(x, 0);
        x.again(1);
        Calls.isRow(check, "THE LETTER", Calls.row(x, 0), letter);
        Calls.isRow(check, "what was GOT", Calls.row(x, 1), new byte[] {1, 2, 3});
        Calls.isRow(check, "THE TAPE", Calls.row(x, 2), new byte[] {4, 5});
        check.due("SIDES", x.count(1), 2);
        check.due("the other side", x.about(0, 2), 1);
    }

    private static void patternStaysClosed() {
        StepShake x = Calls.pair(false, false, "e eE");
        x.again(0);
        x.again(1);
        check.due("message", x.message(0), -3);
        check.due("token", x.token(0, 0), -3);
    }

    private static void secondTimeEndsTheSame() {
        StepShake x = Calls.donePair(true, true, "eFS eEG");
        byte[] h = Calls.h(x, 0);
        x.again(0);
        x.again(1);
        for (int m = 0; m < 2; m++) {
            x.write(m);
            check.due("read of message " + m, x.read(1 - m), 0);
        }
        check.due("same", x.same(0, 1), 1);
        check.holds("h is another one, by other secrets e", !java.util.Arrays.equals(h, Calls.h(x, 0)));
    }

    private static void onlyOneBeginsAnew() {
        StepShake x = Calls.donePair(false, false, "e eE");
        x.again(0);
        check.due("same of one that is not DONE any more", x.same(0, 1), -3);
        x.write(1);
        check.due("the other one is DONE still", x.count(3), 16);
        x.write(0);
        check.due("and can't read what begins anew", x.read(1), -6);
        x.again(1);
        check.due("before it begins anew too", x.read(1), 0);
    }
}
