/** Promise 3: message. */
public final class P03MessageTest {
    private static final Check check = new Check("P03MessageTest");
    private static final int[] NO_PATTERNS = {Calls.MIN, -1, 1, 2, 8, Calls.MAX};

    public static void main(String[] args) {
        howMany();
        badPattern();
        seventhIsFull();
        noWithSide();
        openWithoutSideOfItsOwn();
        badGoesFirst();
        noGoesAheadOfFull();
        check.end();
    }

    private static StepShake withMessages(int many) {
        StepShake x = new StepShake();
        x.pattern(false, false);
        for (int i = 0; i < many; i++) {
            x.message(0);
        }
        return x;
    }

    private static void howMany() {
        StepShake x = new StepShake();
        x.pattern(false, false);
        x.pattern(false, false);
        for (int i = 1; i <= 6; i++) {
            check.due("message " + i, x.message(0), i);
            check.due("told(0, 0)", x.told(0, 0), i);
            check.due("it has no tokens", x.told(0, 3 + 6 * (i - 1) + 5), 0);
        }
        check.due("the other pattern has its own", x.message(1), 1);
        check.due("the first has as many as before", x.told(0, 0), 6);
    }

    private static void badPattern() {
        for (int pattern : NO_PATTERNS) {
            Calls.refused(check, "message(" + pattern + ")", -2, () -> withMessages(2), x -> x.message(pattern));
        }
        check.due("message(0) without patterns", new StepShake().message(0), -2);
    }

    private static void seventhIsFull() {
        check.due("a sixth message", withMessages(5).message(0), 6);
        Calls.refused(check, "a seventh message", -4, () -> withMessages(6), x -> x.message(0));
        StepShake x = withMessages(6);
        x.message(0);
        check.due("an eighth message", x.message(0), -4);
        check.due("a token still goes to the sixth", x.token(0, 0), 1);
        check.due("told of the sixth", x.told(0, 3 + 6 * 5), 0);
    }

    private static void noWithSide() {
        Calls.refused(check, "message with two sides", -3, () -> Calls.pair(false, false, "e eE"), x -> x.message(0));
        for (int hand = 0; hand < 2; hand++) {
            StepShake x = new StepShake();
            Calls.tell(x, false, false, "e eE");
            x.side(0, hand, -1, -1, 1);
            check.due("message with a side of HAND " + hand, x.message(0), -3);
        }
        StepShake x = Calls.donePair(false, false, "e eE");
        check.due("message with sides that are DONE", x.message(0), -3);
        x.again(0);
        x.again(1);
        check.due("message with sides begun anew", x.message(0), -3);
    }

    private static void openWithoutSideOfItsOwn() {
        StepShake x = Calls.pair(false, false, "e eE");
        x.pattern(false, false);
        check.due("message of a pattern without side", x.message(1), 1);
        StepShake y = new StepShake();
        Calls.tell(y, false, true, "eF");
        check.due("a side that is refused", y.side(0, 0, -1, -1, 1), -3);
        check.due("message behind that", y.message(0), 2);
    }

    private static void badGoesFirst() {
        StepShake x = Calls.pair(false, false, "e eE");
        check.due("message(1) where 0 has a side", x.message(1), -2);
        check.due("message(1) where 0 is full", withMessages(6).message(1), -2);
    }

    private static void noGoesAheadOfFull() {
        StepShake x = Calls.pair(true, true, "e e E F G S");
        check.due("there are sides", x.count(1), 2);
        check.due("a seventh message with a side", x.message(0), -3);
    }
}
