/** Promise 19: count. */
public final class P19CountTest {
    private static final Check check = new Check("P19CountTest");

    public static void main(String[] args) {
        badWhat();
        nothing();
        eachOfItsOwn();
        full();
        changesNothing();
        check.end();
    }

    private static void badWhat() {
        for (int what : new int[] {Calls.MIN, -2, -1, 5, 6, Calls.MAX}) {
            check.due("count(" + what + ") of nothing", new StepShake().count(what), -2);
            Calls.refused(check, "count(" + what + ")", -2, () -> Calls.pairAfter(1, false, false, "e eE"),
                    x -> x.count(what));
        }
    }

    private static void nothing() {
        for (int what = 0; what <= 4; what++) {
            check.due("count(" + what + ") of nothing", new StepShake().count(what), 0);
        }
    }

    private static void counts(String when, StepShake x, int... want) {
        for (int what = 0; what <= 4; what++) {
            check.due("count(" + what + ") " + when, x.count(what), want[what]);
        }
    }

    private static void eachOfItsOwn() {
        StepShake x = new StepShake();
        x.pattern(true, true);
        counts("with a pattern", x, 1, 0, 0, 0, 0);
        Calls.tell(x, false, false, "e eE");
        x.side(1, 0, -1, -1, 1);
        counts("with a side", x, 2, 1, 0, 0, 0);
        x.side(1, 1, -1, -1, 1);
        x.feed(0, 3);
        counts("with a tape", x, 2, 2, 3, 0, 0);
        x.write(0);
        counts("with a letter", x, 2, 2, 0, 35, 0);
        x.feed(0, 7);
        x.read(1);
        counts("with what was GOT", x, 2, 2, 7, 35, 3);
        x.cut(11);
        counts("with a letter that was cut", x, 2, 2, 7, 11, 3);
        x.write(1);
        x.read(0);
        counts("of the next letter", x, 2, 2, 0, 55, 7);
        x.again(0);
        counts("behind again", x, 2, 2, 0, 55, 7);
    }

    private static void full() {
        StepShake x = new StepShake();
        Calls.tell(x, false, true, "eFsS eEG");
        Calls.tell(x, false, false, "e eE");
        for (int i = 2; i < 9; i++) {
            x.pattern(false, false);
        }
        x.side(0, 0, 5, 7, 1);
        for (int i = 1; i < 6; i++) {
            x.side(1, 1, -1, -1, i);
        }
        Calls.feedFull(x);
        x.feed(1, 1);
        counts("with a full tape", x, 8, 4, 64, 0, 0);
        x.write(0);
        x.read(1);
        counts("with the longest letter", x, 8, 4, 0, 160, 128);
    }

    private static void changesNothing() {
        for (int what = 0; what <= 4; what++) {
            int one = what;
            int[] want = {1, 2, 0, 32, 0};
            Calls.refused(check, "count(" + what + ")", want[what], () -> Calls.pairAfter(1, false, false, "e eE"),
                    x -> x.count(one));
        }
    }
}
