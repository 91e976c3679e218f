/** Promise 7: side. */
public final class P07SideTest {
    private static final Check check = new Check("P07SideTest");
    private static final int NONE = -1;

    public static void main(String[] args) {
        numbersAsTheyCome();
        badPattern();
        badHand();
        badS();
        badOther();
        noForFault();
        noForOwnSKnownAhead();
        noForOwnSSent();
        noForOtherSKnownAhead();
        noneWhereNoneIsNeeded();
        givenWhereNoneIsNeeded();
        fifthIsFull();
        badGoesFirst();
        noGoesAheadOfFull();
        refusedLeavesThePatternOpen();
        beginsWithNobodyKnown();
        beginsWithWhoIsKnown();
        edgesOfS();
        edgesOfOther();
        edgesOfE();
        secretsOneByOne();
        check.end();
    }

    private static StepShake with(int known, String messages) {
        StepShake x = new StepShake();
        Calls.tell(x, (known & 1) != 0, (known & 2) != 0, messages);
        return x;
    }

    private static void side(int known, String messages, int hand, int s, int other, int want) {
        check.due("side(0, " + hand + ", " + s + ", " + other + ", 9) of " + known + " '" + messages + "'",
                with(known, messages).side(0, hand, s, other, 9), want);
    }

    private static void refused(int known, String messages, int hand, int s, int other, int want) {
        Calls.refused(check, "side(0, " + hand + ", " + s + ", " + other + ", 9) of " + known + " '" + messages + "'",
                want, () -> with(known, messages), x -> x.side(0, hand, s, other, 9));
    }

    private static void numbersAsTheyCome() {
        StepShake x = with(0, "e eE");
        Calls.tell(x, false, true, "eF");
        check.due("the first", x.side(1, 0, NONE, 4, 1), 0);
        check.due("the second, of another pattern", x.side(0, 1, NONE, NONE, 2), 1);
        check.due("the third, of the same HAND", x.side(0, 1, NONE, NONE, 2), 2);
        check.due("the fourth", x.side(1, 1, 4, NONE, 3), 3);
        int[][] want = {{1, 0}, {0, 1}, {0, 1}, {1, 1}};
        for (int i = 0; i < 4; i++) {
            check.due("PATTERN of " + i, x.about(i, 0), want[i][0]);
            check.due("HAND of " + i, x.about(i, 1), want[i][1]);
        }
        check.due("count(1)", x.count(1), 4);
    }

    private static void badPattern() {
        check.due("side without patterns", new StepShake().side(0, 0, 1, 1, 1), -2);
        for (int pattern : new int[] {Calls.MIN, -1, 1, 8, Calls.MAX}) {
            Calls.refused(check, "side of pattern " + pattern, -2, () -> with(0, "e eE"),
                    x -> x.side(pattern, 0, 1, 1, 1));
        }
    }

    private static void badHand() {
        for (int hand : new int[] {Calls.MIN, -1, 2, 3, Calls.MAX}) {
            refused(0, "e eE", hand, 1, 1, -2);
        }
    }

    private static void badS() {
        for (int s : new int[] {Calls.MIN, -3, -2}) {
            refused(0, "e eE", 0, s, 1, -2);
            refused(0, "e eE", 1, s, NONE, -2);
        }
    }

    private static void badOther() {
        for (int other : new int[] {Calls.MIN, -3, -2}) {
            refused(0, "e eE", 0, 1, other, -2);
            refused(0, "e eE", 1, NONE, other, -2);
        }
    }

    private static void noForFault() {
        refused(3, "", 0, 1, 1, -3);
        refused(3, "ee", 0, 1, 1, -3);
        refused(0, "e E", 0, 1, 1, -3);
        refused(0, "e eEE", 1, 1, 1, -3);
        refused(3, "S", 1, 1, 1, -3);
        StepShake x = new StepShake();
        x.pattern(true, true);
        check.due("side of a pattern without messages", x.side(0, 0, 1, 1, 1), -3);
    }

    private static void noForOwnSKnownAhead() {
        refused(1, "e eE", 0, NONE, 1, -3);
        refused(2, "e eE", 1, NONE, 1, -3);
        refused(3, "e eE", 0, NONE, 1, -3);
        refused(3, "e eE", 1, NONE, 1, -3);
        side(1, "e eE", 0, 0, NONE, 0);
        side(2, "e eE", 1, 0, NONE, 0);
    }

    private static void noForOwnSSent() {
        // By each HAND in each of its messages; behind other tokens, ahead of them, as the last of five.
        needsS(0, "s", 0);
        needsS(0, "e eE sG", 0);
        needsS(0, "e e E s s", 0);
        needsS(0, "e eEsF", 1);
        needsS(0, "e e E s", 1);
        needsS(0, "e e s G E s", 1);
        needsS(0, "se", 0);
        needsS(0, "es", 0);
        needsS(1, "e eEGs", 1);
        needsS(1, "e eEGsF", 1);
        needsS(0, "es eEGsF", 1);
    }

    private static void needsS(int known, String messages, int hand) {
        refused(known, messages, hand, NONE, 1, -3);
        side(known, messages, hand, 0, 1, 0);
    }

    private static void noForOtherSKnownAhead() {
        refused(1, "e eE", 1, 1, NONE, -3);
        refused(2, "e eE", 0, 1, NONE, -3);
        refused(3, "e eE", 0, 1, NONE, -3);
        refused(3, "e eE", 1, 1, NONE, -3);
        side(1, "e eE", 1, NONE, 0, 0);
        side(2, "e eE", 0, NONE, 0, 0);
    }

    private static void noneWhereNoneIsNeeded() {
        side(0, "e eE", 0, NONE, NONE, 0);
        side(0, "e eE", 1, NONE, NONE, 0);
        // Only the other one sends s, or is known ahead.
        side(0, "e eEsF", 0, NONE, NONE, 0);
        side(0, "e eE sG", 1, NONE, NONE, 0);
        side(1, "e eEG", 1, NONE, 3, 0);
        side(2, "eF eE", 0, NONE, 3, 0);
    }

    private static void givenWhereNoneIsNeeded() {
        StepShake x = with(0, "e eE");
        check.due("with both", x.side(0, 0, 3, 4, 5), 0);
        check.due("it knows the one that it was told", x.about(0, 7), 1);
        check.due("without", x.side(0, 1, 3, NONE, 5), 1);
        check.due("it knows none", x.about(1, 7), 0);
    }

    private static StepShake withFour() {
        StepShake x = with(1, "e eEG");
        for (int i = 0; i < 4; i++) {
            x.side(0, i & 1, 1, 1, i);
        }
        return x;
    }

    private static void fifthIsFull() {
        check.due("four sides", withFour().count(1), 4);
        for (int hand = 0; hand < 2; hand++) {
            int own = hand;
            Calls.refused(check, "a fifth side, of HAND " + hand, -4, P07SideTest::withFour,
                    x -> x.side(0, own, 1, 1, 9));
        }
        StepShake x = withFour();
        Calls.tell(x, false, false, "e eE");
        check.due("a fifth side, of another pattern", x.side(1, 0, 1, 1, 1), -4);
        check.due("that pattern stays open", x.message(1), 3);
        check.due("there is no SIDE 4", x.about(4, 0), -2);
    }

    private static void badGoesFirst() {
        side(0, "", 2, 1, 1, -2);
        side(0, "", 0, -2, 1, -2);
        side(0, "", 0, 1, -2, -2);
        side(1, "e eE", 0, -2, NONE, -2);
        side(1, "e eE", 0, NONE, -2, -2);
        check.due("a bad fifth HAND", withFour().side(0, 2, 1, 1, 1), -2);
        check.due("a fifth of no pattern", withFour().side(1, 0, 1, 1, 1), -2);
        check.due("a fifth with a bad s", withFour().side(0, 0, -2, 1, 1), -2);
        check.due("a fifth with a bad other", withFour().side(0, 0, 1, -2, 1), -2);
    }

    private static void noGoesAheadOfFull() {
        check.due("a fifth without its s", withFour().side(0, 0, NONE, 1, 1), -3);
        check.due("a fifth without the other's", withFour().side(0, 1, 1, NONE, 1), -3);
        StepShake x = withFour();
        x.pattern(false, false);
        check.due("a fifth of a pattern with a fault", x.side(1, 0, 1, 1, 1), -3);
    }

    private static void refusedLeavesThePatternOpen() {
        StepShake x = with(2, "eF");
        x.side(0, 0, 1, NONE, 1);
        x.side(0, 1, NONE, 1, 1);
        x.side(0, 2, 1, 1, 1);
        check.due("token", x.token(0, 5), 3);
        check.due("ss without s of HAND 0", x.side(0, 0, 1, 1, 1), -3);
        check.due("message", x.message(0), 2);
        check.due("count(1)", x.count(1), 0);
    }

    private static void beginsWithNobodyKnown() {
        for (int side = 0; side < 2; side++) {
            StepShake x = Calls.pair(false, false, "e eE");
            Calls.isRow(check, "h of SIDE " + side, Calls.h(x, side), Calls.name());
            int[] want = {0, side, 0, 0, 0, 0, 0, 1, 0};
            for (int what = 0; what <= 8; what++) {
                check.due("about(" + side + ", " + what + ")", x.about(side, what), want[what]);
            }
        }
    }

    private static void beginsWithWhoIsKnown() {
        byte[] first = Calls.publicOf(5, 0), second = Calls.publicOf(7, 0);
        byte[] mixed = Published.hash(Calls.name(), first);
        for (int side = 0; side < 2; side++) {
            Calls.isRow(check, "h with HAND 0 known", Calls.h(Calls.pair(true, false, "e eE"), side), mixed);
            Calls.isRow(check, "h with HAND 1 known", Calls.h(Calls.pair(false, true, "e eE"), side),
                    Published.hash(Calls.name(), second));
            Calls.isRow(check, "h with both known", Calls.h(Calls.pair(true, true, "e eE"), side),
                    Published.hash(mixed, second));
        }
    }

    private static void edgesOfS() {
        for (int s : new int[] {0, 1, 255, 256, 65536, 1 << 24, Calls.MAX}) {
            StepShake x = with(0, "s");
            check.due("side with s " + s, x.side(0, 0, s, NONE, 1), 0);
            x.write(0);
            Calls.isRow(check, "the s sent, of " + s, Calls.row(x, 0), Calls.publicOf(s, 0));
        }
    }

    private static void edgesOfOther() {
        for (int other : new int[] {0, 1, 255, 256, 65536, 1 << 24, Calls.MAX}) {
            StepShake x = with(2, "e eE");
            check.due("side with other " + other, x.side(0, 0, NONE, other, 1), 0);
            Calls.isRow(check, "h with other " + other, Calls.h(x, 0),
                    Published.hash(Calls.name(), Calls.publicOf(other, 0)));
        }
    }

    /** Every int is a good e, the ones too that mean NONE elsewhere. */
    private static void edgesOfE() {
        for (int e : new int[] {Calls.MIN, -3, -2, -1, 0, 1, 256, Calls.MAX}) {
            StepShake x = with(0, "e");
            check.due("side with e " + e, x.side(0, 0, NONE, NONE, e), 0);
            x.write(0);
            Calls.isRow(check, "the e sent, of " + e, Calls.row(x, 0), Calls.publicOf(e, 1));
        }
    }

    private static void secretsOneByOne() {
        StepShake x = with(0, "e");
        x.side(0, 0, NONE, NONE, 6);
        x.side(0, 0, NONE, NONE, 6);
        for (int j = 0; j < 5; j++) {
            x.write(0);
            Calls.isRow(check, "e number " + j, Calls.row(x, 0), Calls.publicOf(6, j + 1));
            x.again(0);
        }
        x.write(1);
        Calls.isRow(check, "another side counts its own", Calls.row(x, 0), Calls.publicOf(6, 1));
    }
}
