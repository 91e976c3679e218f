/** Promises 1 to 6: a new object, pattern, message, token, fault, told. */
public final class PatternTest {
    private static final Check check = new Check("PatternTest");

    public static void main(String[] args) {
        newObject();
        patterns();
        messages();
        tokens();
        closedBySide();
        faultsOneByOne();
        sealedTooSoon();
        theLowestFaultWins();
        knownPatternsAreGood();
        told();
        check.end();
    }

    private static void newObject() {
        StepShake x = new StepShake();
        for (int what = 0; what <= 4; what++) {
            check.due("count of a new object, " + what, x.count(what), 0);
        }
        for (int what = 0; what <= 2; what++) {
            check.due("byteOf of a new object, " + what, x.byteOf(what, 0), -1);
        }
        check.due("digest of a new object", x.digest(), 67);
        check.due("cut(0) without a LETTER", x.cut(0), 0);
        check.due("alter(0, 0) without a LETTER", x.alter(0, 0), -2);
    }

    private static void patterns() {
        StepShake x = new StepShake();
        for (int i = 0; i < 8; i++) {
            check.due("pattern " + i, x.pattern((i & 1) != 0, (i & 2) != 0), i);
        }
        check.due("a ninth pattern", x.pattern(false, false), -4);
        check.due("count(0)", x.count(0), 8);
        check.due("message(8)", x.message(8), -2);
        check.due("token(8, 0)", x.token(8, 0), -2);
        check.due("fault(8)", x.fault(8), -2);
        check.due("told(8, 0)", x.told(8, 0), -2);
        check.due("side(8, ..)", x.side(8, 0, 1, 1, 1), -2);
        for (int i = 0; i < 8; i++) {
            check.due("told(" + i + ", 1)", x.told(i, 1), i & 1);
            check.due("told(" + i + ", 2)", x.told(i, 2), i >> 1 & 1);
        }
    }

    private static void messages() {
        StepShake x = new StepShake();
        check.due("message(0) without patterns", x.message(0), -2);
        x.pattern(false, false);
        for (int i = 1; i <= 6; i++) {
            check.due("message " + i, x.message(0), i);
        }
        check.due("a seventh message", x.message(0), -4);
        check.due("told(0, 0)", x.told(0, 0), 6);
        check.due("message(-1)", x.message(-1), -2);
        check.due("message(1)", x.message(1), -2);
        check.due("message of the least int", x.message(Integer.MIN_VALUE), -2);
    }

    private static void tokens() {
        StepShake x = new StepShake();
        x.pattern(false, false);
        check.due("a token without a message", x.token(0, 0), -3);
        check.due("a bad token without a message", x.token(0, 6), -2);
        x.message(0);
        for (int i = 1; i <= 5; i++) {
            check.due("token " + i, x.token(0, i), i);
        }
        check.due("a sixth token", x.token(0, 0), -4);
        check.due("a bad sixth token", x.token(0, -1), -2);
        check.due("token(1, 0)", x.token(1, 0), -2);
        check.due("token(-1, 0)", x.token(-1, 0), -2);
        x.message(0);
        check.due("a token of the next message", x.token(0, 0), 1);
        check.due("the first message has as many as before", x.told(0, 3 + 5), 5);
        check.due("the token is in the last message", x.told(0, 3 + 6), 0);
    }

    private static void closedBySide() {
        StepShake x = Calls.pair(false, false, "e e e e e eE");
        check.due("fault of six messages", x.fault(0), 2);
        check.due("no side of a fault", x.count(1), 0);
        check.due("message before FULL is NO only with a side", x.message(0), -4);
        x = Calls.pair(true, true, "eFSGs eEGss");
        check.due("fault, so no side", x.count(1), 0);
        x = Calls.pair(false, false, "e eEsFs");
        check.due("s twice, so no side", x.count(1), 0);
        x = Calls.pair(false, false, "e eEsF");
        check.due("both sides", x.count(1), 2);
        check.due("message of a pattern with a side", x.message(0), -3);
        check.due("token of a pattern with a side", x.token(0, 0), -3);
        check.due("bad token of a pattern with a side", x.token(0, 6), -2);
        x.pattern(false, false);
        check.due("another pattern is open", x.message(1), 1);
        x = Calls.pair(true, true, "e e E F G S");
        check.due("six messages with sides", x.count(1), 2);
        check.due("NO goes ahead of FULL for a message", x.message(0), -3);
        x = Calls.pair(true, true, "e eEFGS");
        check.due("five tokens with sides", x.count(1), 2);
        check.due("NO goes ahead of FULL for a token", x.token(0, 1), -3);
    }

    private static void fault(boolean known, boolean other, String messages, int want) {
        check.due("fault of " + known + " " + other + " '" + messages + "'",
                Calls.faultOf(known, other, messages), want);
    }

    private static void faultsOneByOne() {
        StepShake x = new StepShake();
        check.due("fault(0) without patterns", x.fault(0), -2);
        x.pattern(true, true);
        check.due("fault without messages", x.fault(0), 1);
        check.due("fault(1)", x.fault(1), -2);
        check.due("fault(-1)", x.fault(-1), -2);
        fault(false, false, "", 1);
        fault(false, false, "e  e", 1);
        fault(false, false, "e ", 1);
        fault(false, false, "ee", 2);
        fault(false, false, "e e e", 2);
        fault(false, false, "e e", 0);
        fault(false, false, "s s s", 2);
        fault(false, false, "s s", 0);
        fault(true, false, "s", 2);
        fault(true, false, "e s", 0);
        fault(false, true, "e s", 2);
        fault(false, true, "s", 0);
        fault(false, false, "E", 3);
        fault(false, false, "eE", 3);
        fault(false, false, "e Ee", 3);
        fault(false, false, "s eE", 3);
        fault(false, false, "e eE", 0);
        fault(false, false, "eF", 3);
        fault(true, false, "eF", 3);
        fault(false, true, "eF", 0);
        fault(false, true, "F e", 3);
        fault(false, true, "G e", 3);
        fault(true, false, "e GeE", 3);
        fault(true, false, "e eEG", 0);
        fault(false, false, "e eEG", 3);
        fault(true, false, "S", 3);
        fault(false, true, "S", 3);
        fault(false, false, "s Ss", 3);
        fault(false, false, "e eEE", 4);
        fault(false, true, "eF eEF", 4);
        fault(true, true, "eFS eEGS", 4);
        fault(true, false, "e eEG G", 4);
    }

    private static void sealedTooSoon() {
        // HAND 0: se wants ee, ss wants es, ahead of the end of its message.
        fault(true, true, "e eG F", 5);
        fault(true, true, "e eG FE", 0);
        fault(true, true, "e eG EF", 0);
        fault(true, true, "S", 5);
        fault(true, true, "Se", 5);
        fault(true, true, "Se eFEG", 5);
        fault(true, true, "SeF", 0);
        // HAND 1: es wants ee, ss wants se.
        fault(false, true, "eF e", 5);
        fault(false, true, "eF e E", 5);
        fault(false, true, "eF eE", 0);
        fault(false, false, "e sF", 5);
        fault(false, false, "e sFeE", 0);
        fault(true, true, "eFS eE", 5);
        fault(true, true, "eFS eEG", 0);
        fault(false, false, "s sS", 5);
        // What only the other HAND's rule is against.
        fault(false, true, "eF", 0);
        fault(true, false, "e eG", 0);
        fault(true, true, "eFS", 0);
        fault(true, true, "e eSG", 0);
        fault(true, true, "e eSG E", 5);
        fault(true, true, "e eSG EF", 0);
    }

    private static void theLowestFaultWins() {
        fault(true, false, "sEeEES ", 1);
        fault(true, false, "E eEE s", 2);
        fault(false, false, "E eEE", 3);
        fault(true, true, "eFF e", 4);
        fault(true, true, "S SsE", 2);
        fault(true, true, "S SE", 3);
        fault(true, true, "S S", 4);
    }

    private static void knownPatternsAreGood() {
        String[] good = {"0e eE", "0e eEsF", "0e eE sG", "2eF eE", "2eF eE sG", "0e eEsF sG", "1e eEG", "3eFS eEG",
            "1e eEGsF", "0es eEG", "2eFsS eEG", "0es eEGsF", "2eF", "3eFS", "2eFsS"};
        for (String one : good) {
            int known = one.charAt(0) - '0';
            fault((known & 1) != 0, (known & 2) != 0, one.substring(1), 0);
        }
    }

    private static void told() {
        StepShake x = new StepShake();
        check.due("told(0, 0) without patterns", x.told(0, 0), -2);
        Calls.tell(x, true, false, "esEFG S eeeeS");
        check.due("told(0, 0)", x.told(0, 0), 3);
        check.due("told(0, 1)", x.told(0, 1), 1);
        check.due("told(0, 2)", x.told(0, 2), 0);
        int[] want = {0, 1, 2, 3, 4, 5, 5, -1, -1, -1, -1, 1, 0, 0, 0, 0, 5, 5};
        for (int i = 0; i < 36; i++) {
            check.due("told(0, " + (3 + i) + ")", x.told(0, 3 + i), i < want.length ? want[i] : -1);
        }
        check.due("told(0, 39)", x.told(0, 39), -2);
        check.due("told(0, -1)", x.told(0, -1), -2);
        check.due("told(1, 0)", x.told(1, 0), -2);
        check.due("told(-1, 0)", x.told(-1, 0), -2);
        x.message(0);
        check.due("a message without tokens", x.told(0, 3 + 18 + 5), 0);
        check.due("its first token", x.told(0, 3 + 18), -1);
        check.due("told changes nothing", x.told(0, 0), 4);
    }
}
