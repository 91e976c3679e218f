/** Promise 5: fault. */
public final class P05FaultTest {
    private static final Check check = new Check("P05FaultTest");

    public static void main(String[] args) {
        badPattern();
        noMessage();
        emptyMessage();
        twiceE();
        twiceS();
        sKnownAhead();
        eeWithoutKey();
        esWithoutKey();
        seWithoutKey();
        ssWithoutKey();
        keySentTooLate();
        sameDhAgain();
        firstHandSealsBehindSe();
        firstHandSealsBehindSs();
        secondHandSealsBehindEs();
        secondHandSealsBehindSs();
        onlyWhoSeals();
        theFirstFaultAnywhere();
        fullPatterns();
        publishedPatternsAreGood();
        asItIsTold();
        check.end();
    }

    /** Who is known ahead: 0 nobody, 1 HAND 0, 2 HAND 1, 3 both. */
    private static void fault(int known, String messages, int want) {
        StepShake x = new StepShake();
        Calls.tell(x, (known & 1) != 0, (known & 2) != 0, messages);
        check.due("fault of " + known + " '" + messages + "'", x.fault(0), want);
        check.due("fault asked again", x.fault(0), want);
    }

    private static void badPattern() {
        check.due("fault(0) without patterns", new StepShake().fault(0), -2);
        for (int pattern : new int[] {Calls.MIN, -1, 1, 8, Calls.MAX}) {
            StepShake x = new StepShake();
            x.pattern(true, true);
            check.due("fault(" + pattern + ")", x.fault(pattern), -2);
        }
    }

    private static void noMessage() {
        for (int known = 0; known < 4; known++) {
            StepShake x = new StepShake();
            x.pattern((known & 1) != 0, (known & 2) != 0);
            check.due("fault without messages", x.fault(0), 1);
        }
    }

    private static void emptyMessage() {
        fault(0, "", 1);
        fault(0, " e", 1);
        fault(0, "e ", 1);
        fault(0, "e  s", 1);
        fault(3, "e e E F G ", 1);
        fault(3, "e e E F G S", 0);
    }

    private static void twiceE() {
        fault(0, "ee", 2);
        fault(0, "e e e", 2);
        fault(0, "s e s e", 2);
        fault(0, "s ee", 2);
        fault(0, "s e e e", 2);
        fault(0, "e s s s s e", 2);
        fault(0, "e e", 0);
    }

    private static void twiceS() {
        fault(0, "ss", 2);
        fault(0, "s e s", 2);
        fault(0, "e ss", 2);
        fault(0, "e s s s", 2);
        fault(0, "s s", 0);
        fault(0, "es es", 0);
    }

    private static void sKnownAhead() {
        fault(1, "s", 2);
        fault(1, "e e s", 2);
        fault(3, "s", 2);
        fault(2, "s", 0);
        fault(2, "e s", 2);
        fault(2, "e e s s", 2);
        fault(3, "e s", 2);
        fault(1, "e s", 0);
        // e is never known ahead.
        fault(3, "e e", 0);
    }

    private static void eeWithoutKey() {
        fault(3, "E", 3);
        fault(3, "eE", 3);
        fault(3, "s eE", 2);
        fault(0, "s eE", 3);
        fault(3, "e E", 3);
        fault(0, "e eE", 0);
        fault(0, "e e E", 0);
    }

    private static void esWithoutKey() {
        fault(2, "F", 3);
        fault(0, "eF", 3);
        fault(1, "eF", 3);
        fault(0, "e eEF", 3);
        fault(0, "s sF", 3);
        fault(0, "esF", 3);
        fault(2, "eF", 0);
        fault(0, "e seFE", 0);
    }

    private static void seWithoutKey() {
        fault(1, "G", 3);
        fault(1, "eG", 3);
        fault(0, "e eG", 3);
        fault(2, "e eG", 3);
        fault(0, "s sG", 3);
        fault(0, "e esG", 3);
        fault(1, "e eG", 0);
        fault(0, "s eG", 0);
    }

    private static void ssWithoutKey() {
        fault(0, "S", 3);
        fault(1, "S", 3);
        fault(2, "S", 3);
        fault(0, "sS", 3);
        fault(0, "e sS", 3);
        fault(0, "es eS", 3);
        fault(3, "eFS", 0);
        fault(2, "eFsS", 0);
        fault(0, "es seSGE", 0);
    }

    private static void keySentTooLate() {
        fault(0, "e Ee", 3);
        fault(2, "Fe", 3);
        fault(1, "e Ge", 3);
        fault(2, "eFSs", 3);
        fault(0, "s Ss", 3);
        fault(0, "e eEFs", 3);
        fault(0, "e eE Gs", 3);
        fault(0, "eE e", 3);
    }

    private static void sameDhAgain() {
        fault(0, "e eEE", 4);
        fault(0, "e eE E", 4);
        fault(2, "eFF", 4);
        fault(2, "eF eEF", 4);
        fault(1, "e eEGG", 4);
        fault(1, "e eEG G", 4);
        fault(3, "eFSS", 4);
        fault(3, "eFS eEGS", 4);
        fault(3, "eF eEGS", 0);
    }

    private static void firstHandSealsBehindSe() {
        fault(3, "e eG F", 5);
        fault(3, "e eG FE", 0);
        fault(3, "e eG EF", 0);
        fault(3, "e eGE F", 0);
        fault(0, "es eG", 0);
        fault(0, "s eG e", 5);
        fault(0, "s eG eE", 0);
        // The ee that comes in a later message comes too late.
        fault(0, "s eG e E", 5);
    }

    private static void firstHandSealsBehindSs() {
        fault(3, "S", 5);
        fault(3, "Se", 5);
        fault(3, "SeF", 0);
        fault(3, "eSF", 0);
        fault(3, "Se eFEG", 5);
        fault(3, "e eSG E", 5);
        fault(3, "e eSG EF", 0);
        fault(3, "e eSGEF", 0);
    }

    private static void secondHandSealsBehindEs() {
        fault(2, "eF e", 5);
        fault(2, "eF eE", 0);
        fault(2, "eF e E", 5);
        fault(0, "e sF", 5);
        fault(0, "e sFeE", 0);
        fault(0, "e sF eE", 2);
        fault(3, "e e F e", 2);
        fault(0, "e s F e", 5);
        fault(0, "e s F eE", 0);
    }

    private static void secondHandSealsBehindSs() {
        fault(3, "eFS eE", 5);
        fault(3, "eFS eEG", 0);
        fault(3, "eFS eGE", 0);
        fault(0, "s sS", 5);
        fault(0, "s seSG", 0);
        fault(0, "s seSG eEF", 0);
    }

    /** What only the other HAND may not SEAL behind. */
    private static void onlyWhoSeals() {
        fault(2, "eF", 0);
        fault(1, "e eG", 0);
        fault(3, "eFS", 0);
        fault(3, "e eSG", 0);
        // HAND 0 may go behind es without ee, HAND 1 behind se without ee.
        fault(0, "e s F", 0);
        fault(0, "s e e G", 0);
    }

    private static void theFirstFaultAnywhere() {
        fault(1, "sEeEES ", 1);
        fault(1, "E eEE s", 2);
        fault(0, "E eEE", 3);
        fault(3, "eFF e", 4);
        fault(3, "S SsE", 2);
        fault(3, "S SE", 3);
        fault(3, "S S", 4);
        fault(3, "S e", 5);
        fault(0, "ee ", 1);
        fault(3, "eSS eE F GG s", 2);
        fault(3, "eFF e E E eS", 2);
        fault(0, "e eEE F", 3);
    }

    private static void fullPatterns() {
        fault(3, "eFSFS eEGEG FSFSE eeeee sssss EEEEE", 2);
        fault(0, "es esEFG S", 0);
        fault(0, "e e E s Fs G", 0);
        fault(0, "es esEF G S E E", 4);
    }

    private static void publishedPatternsAreGood() {
        String[] good = {"0e eE", "0e eEsF", "0e eE sG", "2eF eE", "2eF eE sG", "0e eEsF sG", "1e eEG", "3eFS eEG",
            "1e eEGsF", "0es eEG", "2eFsS eEG", "0es eEGsF", "2eF", "3eFS", "2eFsS"};
        for (String one : good) {
            fault(one.charAt(0) - '0', one.substring(1), 0);
        }
    }

    /** FAULTS come and go as TOKENS are told; SIDES don't change them. */
    private static void asItIsTold() {
        StepShake x = new StepShake();
        x.pattern(true, true);
        check.due("no message", x.fault(0), 1);
        x.message(0);
        check.due("an empty one", x.fault(0), 1);
        x.token(0, 5);
        check.due("ss alone", x.fault(0), 5);
        x.token(0, 0);
        check.due("ss, e", x.fault(0), 5);
        x.token(0, 3);
        check.due("ss, e, es", x.fault(0), 0);
        x.side(0, 0, 1, 2, 3);
        check.due("with a side", x.fault(0), 0);
        x.pattern(false, false);
        check.due("another pattern", x.fault(1), 1);
        check.due("the first one still", x.fault(0), 0);
    }
}
