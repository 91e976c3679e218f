/** Promise 6: told. */
public final class P06ToldTest {
    private static final Check check = new Check("P06ToldTest");

    public static void main(String[] args) {
        badPattern();
        badWhat();
        howManyMessages();
        whoIsKnownAhead();
        noMessages();
        emptyMessage();
        someTokens();
        everythingFull();
        withSides();
        check.end();
    }

    private static void badPattern() {
        check.due("told(0, 0) without patterns", new StepShake().told(0, 0), -2);
        for (int pattern : new int[] {Calls.MIN, -1, 1, 8, Calls.MAX}) {
            StepShake x = new StepShake();
            Calls.tell(x, false, false, "e eE");
            check.due("told(" + pattern + ", 0)", x.told(pattern, 0), -2);
            check.due("told(" + pattern + ", 38)", x.told(pattern, 38), -2);
        }
    }

    private static void badWhat() {
        StepShake x = new StepShake();
        Calls.tell(x, true, true, "e e E F G S");
        for (int what : new int[] {Calls.MIN, -2, -1, 39, 40, Calls.MAX}) {
            check.due("told(0, " + what + ")", x.told(0, what), -2);
        }
        check.due("the least that is not BAD", x.told(0, 0), 6);
        check.due("the greatest that is not BAD", x.told(0, 38), 1);
    }

    private static void howManyMessages() {
        StepShake x = new StepShake();
        x.pattern(false, false);
        check.due("none", x.told(0, 0), 0);
        for (int i = 1; i <= 6; i++) {
            x.message(0);
            check.due("after message " + i, x.told(0, 0), i);
        }
        x.message(0);
        check.due("after one that is refused", x.told(0, 0), 6);
    }

    private static void whoIsKnownAhead() {
        for (int known = 0; known < 4; known++) {
            StepShake x = new StepShake();
            x.pattern((known & 1) != 0, (known & 2) != 0);
            check.due("HAND 0 of " + known, x.told(0, 1), known & 1);
            check.due("HAND 1 of " + known, x.told(0, 2), known >> 1);
        }
    }

    private static void noMessages() {
        StepShake x = new StepShake();
        x.pattern(true, true);
        for (int what = 3; what <= 38; what++) {
            check.due("told(0, " + what + ") without messages", x.told(0, what), -1);
        }
    }

    private static void emptyMessage() {
        StepShake x = new StepShake();
        x.pattern(false, false);
        x.message(0);
        for (int k = 0; k < 5; k++) {
            check.due("token " + k + " of an empty message", x.told(0, 3 + k), -1);
        }
        check.due("how many an empty message has", x.told(0, 3 + 5), 0);
        check.due("how many a message has that is not there", x.told(0, 3 + 6 + 5), -1);
    }

    private static void someTokens() {
        StepShake x = new StepShake();
        Calls.tell(x, true, false, "esEFG S  eeeeS");
        int[] want = {
            0, 1, 2, 3, 4, 5,
            5, -1, -1, -1, -1, 1,
            -1, -1, -1, -1, -1, 0,
            0, 0, 0, 0, 5, 5};
        for (int i = 0; i < 36; i++) {
            check.due("told(0, " + (3 + i) + ")", x.told(0, 3 + i), i < want.length ? want[i] : -1);
        }
    }

    private static void everythingFull() {
        StepShake x = new StepShake();
        Calls.tell(x, false, true, "esEFG sEFGS EFGSe FGSes GSesE SesEF");
        for (int m = 0; m < 6; m++) {
            for (int k = 0; k < 5; k++) {
                check.due("token " + k + " of message " + m, x.told(0, 3 + 6 * m + k), (m + k) % 6);
            }
            check.due("how many of message " + m, x.told(0, 3 + 6 * m + 5), 5);
        }
    }

    private static void withSides() {
        StepShake x = Calls.donePair(true, true, "eFS eEG");
        int[] want = {2, 1, 1, 0, 3, 5, -1, -1, 3, 0, 2, 4, -1, -1, 3, -1};
        for (int what = 0; what < want.length; what++) {
            check.due("told(0, " + what + ") with sides", x.told(0, what), want[what]);
        }
    }
}
