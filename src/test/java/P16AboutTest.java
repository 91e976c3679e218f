/** Promise 16: about. */
public final class P16AboutTest {
    private static final Check check = new Check("P16AboutTest");

    public static void main(String[] args) {
        badSide();
        badWhat();
        patternAndHand();
        atFirst();
        stepByStep();
        doneByWhoWrites();
        doneWithoutAnyDh();
        countOfSeals();
        toldOrRead();
        sixMessages();
        afterRefusedCalls();
        check.end();
    }

    private static void abouts(String when, StepShake x, int side, int... want) {
        for (int what = 0; what <= 8; what++) {
            check.due("about(" + side + ", " + what + ") " + when, x.about(side, what), want[what]);
        }
    }

    private static void badSide() {
        check.due("about(0, 0) without sides", new StepShake().about(0, 0), -2);
        for (int side : new int[] {Calls.MIN, -1, 2, 4, Calls.MAX}) {
            check.due("about(" + side + ", 0)", Calls.pair(false, false, "e eE").about(side, 0), -2);
            check.due("about(" + side + ", 9)", Calls.pair(false, false, "e eE").about(side, 9), -2);
        }
    }

    private static void badWhat() {
        for (int what : new int[] {Calls.MIN, -2, -1, 9, 10, Calls.MAX}) {
            Calls.refused(check, "about(0, " + what + ")", -2, () -> Calls.pair(false, false, "e eE"),
                    x -> x.about(0, what));
        }
    }

    private static void patternAndHand() {
        StepShake x = new StepShake();
        for (int i = 0; i < 7; i++) {
            x.pattern(false, false);
        }
        Calls.tell(x, false, false, "e eE");
        x.side(7, 1, -1, -1, 1);
        x.side(7, 0, -1, -1, 1);
        abouts("of the last pattern", x, 0, 7, 1, 0, 0, 0, 0, 0, 0, 0);
        abouts("of the last pattern", x, 1, 7, 0, 0, 0, 0, 0, 0, 0, 0);
    }

    private static void atFirst() {
        abouts("told s", Calls.pair(false, false, "e eE"), 0, 0, 0, 0, 0, 0, 0, 0, 1, 0);
        StepShake x = new StepShake();
        Calls.tell(x, false, false, "e eE");
        x.side(0, 1, 3, -1, 1);
        abouts("its own s alone", x, 0, 0, 1, 0, 0, 0, 0, 0, 0, 0);
    }

    private static void stepByStep() {
        StepShake x = new StepShake();
        x.pattern(false, false);
        Calls.tell(x, false, false, "e eEsF sG");
        x.side(1, 1, 7, -1, 70);
        x.side(1, 0, 5, -1, 50);
        x.write(1);
        x.read(0);
        abouts("after e", x, 0, 1, 1, 1, 0, 0, 0, 1, 0, 0);
        abouts("after e", x, 1, 1, 0, 1, 0, 0, 0, 0, 0, 1);
        x.write(0);
        abouts("after e, ee, s, es", x, 0, 1, 1, 2, 0, 1, 1, 1, 0, 1);
        x.read(1);
        abouts("after e, ee, s, es", x, 1, 1, 0, 2, 0, 1, 1, 1, 1, 1);
        x.write(1);
        x.read(0);
        abouts("DONE", x, 0, 1, 1, 3, 1, 1, 0, 1, 1, 1);
        abouts("DONE", x, 1, 1, 0, 3, 1, 1, 0, 1, 1, 1);
        x.write(1);
        x.read(0);
        x.write(1);
        abouts("DONE, having sent", x, 1, 1, 0, 3, 1, 1, 2, 1, 1, 1);
        abouts("DONE, having read", x, 0, 1, 1, 3, 1, 1, 0, 1, 1, 1);
    }

    private static void doneByWhoWrites() {
        StepShake x = Calls.pair(false, true, "eF");
        x.write(0);
        abouts("of who wrote the only one", x, 0, 0, 0, 1, 1, 1, 0, 0, 1, 1);
        abouts("of who is to read it", x, 1, 0, 1, 0, 0, 0, 0, 0, 1, 0);
        x.read(1);
        abouts("of who read it", x, 1, 0, 1, 1, 1, 1, 0, 1, 1, 0);
    }

    private static void doneWithoutAnyDh() {
        StepShake x = Calls.pair(false, false, "e e");
        x.write(0);
        abouts("without k", x, 0, 0, 0, 1, 0, 0, 0, 0, 1, 1);
        x.read(1);
        x.write(1);
        abouts("DONE without any DH", x, 1, 0, 1, 2, 1, 1, 0, 1, 1, 1);
    }

    private static void countOfSeals() {
        StepShake x = Calls.pair(false, true, "eFs eE");
        x.write(0);
        check.due("n counts s and the payload", x.about(0, 5), 2);
        x.read(1);
        check.due("n of who read", x.about(1, 5), 2);
        x = Calls.pairAfter(2, true, true, "e e E F G S");
        check.due("no k, no n", x.about(0, 5), 0);
        check.due("no k", x.about(0, 4), 0);
        x.write(0);
        check.due("k", x.about(0, 4), 1);
        check.due("n of one", x.about(0, 5), 1);
        x.read(1);
        x.write(1);
        check.due("a DH begins n at 0", x.about(1, 5), 1);
        x = Calls.pairAfter(3, false, false, "e eE s s");
        check.due("n goes on without a DH", x.about(0, 5), 3);
        check.due("n goes on for who reads", x.about(1, 5), 3);
    }

    private static void toldOrRead() {
        StepShake x = new StepShake();
        Calls.tell(x, false, false, "s s");
        x.side(0, 0, 1, -1, 1);
        x.side(0, 1, 2, 3, 1);
        check.due("neither", x.about(0, 7), 0);
        check.due("told", x.about(1, 7), 1);
        x.write(0);
        check.due("who sends s learns none", x.about(0, 7), 0);
        x.read(1);
        check.due("told and read", x.about(1, 7), 1);
        x.write(1);
        x.read(0);
        check.due("read", x.about(0, 7), 1);
        check.due("no e", x.about(0, 6), 0);
    }

    private static void sixMessages() {
        for (int m = 0; m <= 6; m++) {
            StepShake x = Calls.pairAfter(m, true, true, "e e E F G S");
            for (int side = 0; side < 2; side++) {
                check.due("MESSAGES after " + m, x.about(side, 2), m);
                check.due("DONE after " + m, x.about(side, 3), m == 6 ? 1 : 0);
                check.due("k after " + m, x.about(side, 4), m >= 3 ? 1 : 0);
            }
        }
    }

    private static void afterRefusedCalls() {
        StepShake x = Calls.pair(false, false, "e eE");
        x.write(1);
        x.read(0);
        x.read(1);
        abouts("behind NO", x, 0, 0, 0, 0, 0, 0, 0, 0, 1, 0);
        abouts("behind NO and SHORT", x, 1, 0, 1, 0, 0, 0, 0, 0, 1, 0);
    }
}
