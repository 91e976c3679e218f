/** Promise 2: pattern. */
public final class P02PatternTest {
    private static final Check check = new Check("P02PatternTest");

    public static void main(String[] args) {
        numbersAsTheyCome();
        eightThenFull();
        fullChangesNothing();
        whoIsKnownAhead();
        refusedPatternsCountToo();
        check.end();
    }

    private static StepShake withPatterns(int many) {
        StepShake x = new StepShake();
        for (int i = 0; i < many; i++) {
            x.pattern((i & 1) != 0, (i & 2) != 0);
        }
        return x;
    }

    private static void numbersAsTheyCome() {
        StepShake x = new StepShake();
        for (int i = 0; i < 8; i++) {
            check.due("pattern " + i, x.pattern((i & 1) != 0, (i & 2) != 0), i);
            check.due("count(0) behind it", x.count(0), i + 1);
        }
    }

    private static void eightThenFull() {
        check.due("the eighth", withPatterns(7).pattern(true, true), 7);
        for (int i = 0; i < 4; i++) {
            check.due("the ninth", withPatterns(8).pattern((i & 1) != 0, (i & 2) != 0), -4);
        }
        StepShake x = withPatterns(8);
        x.pattern(false, false);
        check.due("the tenth", x.pattern(false, false), -4);
        check.due("count(0)", x.count(0), 8);
        check.due("there is no PATTERN 8", x.fault(8), -2);
        check.due("the last is there", x.fault(7), 1);
    }

    private static void fullChangesNothing() {
        Calls.refused(check, "a ninth pattern", -4, () -> withPatterns(8), x -> x.pattern(true, true));
        Calls.refused(check, "a ninth pattern with sides about", -4, () -> {
            StepShake x = Calls.pair(false, false, "e eE");
            for (int i = 0; i < 7; i++) {
                x.pattern(false, false);
            }
            return x;
        }, x -> x.pattern(true, true));
    }

    private static void whoIsKnownAhead() {
        StepShake x = withPatterns(8);
        for (int i = 0; i < 8; i++) {
            check.due("HAND 0 of " + i, x.told(i, 1), i & 1);
            check.due("HAND 1 of " + i, x.told(i, 2), i >> 1 & 1);
            check.due("MESSAGES of " + i, x.told(i, 0), 0);
        }
    }

    /** A PATTERN stays one of the eight, with a FAULT or with SIDES. */
    private static void refusedPatternsCountToo() {
        StepShake x = Calls.pair(false, false, "e eE");
        for (int i = 1; i < 8; i++) {
            check.due("pattern " + i, x.pattern(false, false), i);
        }
        check.due("the ninth", x.pattern(false, false), -4);
    }
}
