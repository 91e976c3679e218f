/** Promise 4: token. */
public final class P04TokenTest {
    private static final Check check = new Check("P04TokenTest");
    private static final int[] NO_TOKENS = {Calls.MIN, -2, -1, 6, 7, 256, Calls.MAX};
    private static final int[] NO_PATTERNS = {Calls.MIN, -1, 1, 8, Calls.MAX};

    public static void main(String[] args) {
        everyToken();
        howMany();
        onlyTheLastMessage();
        badPattern();
        badToken();
        noMessage();
        noWithSide();
        sixthIsFull();
        badGoesFirst();
        noGoesAheadOfFull();
        check.end();
    }

    private static StepShake withTokens(int many) {
        StepShake x = new StepShake();
        x.pattern(false, false);
        x.message(0);
        for (int i = 0; i < many; i++) {
            x.token(0, i);
        }
        return x;
    }

    private static void everyToken() {
        for (int t = 0; t <= 5; t++) {
            StepShake x = withTokens(0);
            check.due("token " + t, x.token(0, t), 1);
            check.due("told of token " + t, x.told(0, 3), t);
        }
    }

    private static void howMany() {
        StepShake x = withTokens(0);
        for (int i = 1; i <= 5; i++) {
            check.due("token " + i, x.token(0, 5 - i), i);
            check.due("how many are told", x.told(0, 3 + 5), i);
        }
    }

    private static void onlyTheLastMessage() {
        StepShake x = withTokens(5);
        x.message(0);
        check.due("a token of the next message", x.token(0, 5), 1);
        check.due("it is there", x.told(0, 3 + 6), 5);
        check.due("the first message has as many as before", x.told(0, 3 + 5), 5);
        for (int m = 2; m < 6; m++) {
            x.message(0);
        }
        for (int i = 1; i <= 5; i++) {
            check.due("token " + i + " of the sixth message", x.token(0, i), i);
        }
        check.due("a sixth there", x.token(0, 0), -4);
        check.due("a message that was left empty stays so", x.told(0, 3 + 6 * 3 + 5), 0);
    }

    private static void badPattern() {
        for (int pattern : NO_PATTERNS) {
            Calls.refused(check, "token(" + pattern + ", 0)", -2, () -> withTokens(1), x -> x.token(pattern, 0));
        }
        check.due("token(0, 0) without patterns", new StepShake().token(0, 0), -2);
    }

    private static void badToken() {
        for (int t : NO_TOKENS) {
            Calls.refused(check, "token(0, " + t + ")", -2, () -> withTokens(1), x -> x.token(0, t));
        }
    }

    private static void noMessage() {
        Calls.refused(check, "a token without a message", -3, () -> {
            StepShake x = new StepShake();
            x.pattern(false, false);
            return x;
        }, x -> x.token(0, 0));
        StepShake x = withTokens(1);
        x.pattern(false, false);
        check.due("another pattern's message does not help", x.token(1, 0), -3);
    }

    private static void noWithSide() {
        Calls.refused(check, "a token with two sides", -3, () -> Calls.pair(false, false, "e eE"),
                x -> x.token(0, 1));
        for (int hand = 0; hand < 2; hand++) {
            StepShake x = new StepShake();
            Calls.tell(x, false, false, "e eE");
            x.side(0, hand, -1, -1, 1);
            check.due("a token with a side of HAND " + hand, x.token(0, 1), -3);
            x.pattern(false, false);
            x.message(1);
            check.due("a token of another pattern", x.token(1, 1), 1);
        }
    }

    private static void sixthIsFull() {
        check.due("a fifth token", withTokens(4).token(0, 5), 5);
        for (int t = 0; t <= 5; t++) {
            int token = t;
            Calls.refused(check, "a sixth token, " + t, -4, () -> withTokens(5), x -> x.token(0, token));
        }
    }

    private static void badGoesFirst() {
        StepShake x = new StepShake();
        x.pattern(false, false);
        check.due("a bad token without a message", x.token(0, 6), -2);
        check.due("a bad token with a side", Calls.pair(false, false, "e eE").token(0, -1), -2);
        check.due("a bad sixth token", withTokens(5).token(0, 6), -2);
        check.due("a sixth token of no pattern", withTokens(5).token(1, 0), -2);
    }

    private static void noGoesAheadOfFull() {
        StepShake x = Calls.pair(true, true, "e eEFGS");
        check.due("there are sides", x.count(1), 2);
        check.due("a sixth token with a side", x.token(0, 1), -3);
    }
}
