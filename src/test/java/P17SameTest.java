/** Promise 17: same. */
public final class P17SameTest {
    private static final Check check = new Check("P17SameTest");

    public static void main(String[] args) {
        badSides();
        noAtFirst();
        noWhereOneIsDone();
        noBehindAgain();
        badGoesFirst();
        sameEitherWay();
        everyPublishedPattern();
        countsDoNotMatter();
        anotherH();
        anotherKey();
        oneHand();
        ofTwoPairs();
        changesNothing();
        check.end();
    }

    private static void badSides() {
        check.due("same(0, 0) without sides", new StepShake().same(0, 0), -2);
        for (int side : new int[] {Calls.MIN, -1, 2, 4, Calls.MAX}) {
            check.due("same(" + side + ", 1)", Calls.donePair(false, false, "e eE").same(side, 1), -2);
            check.due("same(0, " + side + ")", Calls.donePair(false, false, "e eE").same(0, side), -2);
            check.due("same(" + side + ", " + side + ")", Calls.donePair(false, false, "e eE").same(side, side), -2);
        }
    }

    private static void noAtFirst() {
        Calls.refused(check, "same of two that have not begun", -3, () -> Calls.pair(false, false, "e eE"),
                x -> x.same(0, 1));
        check.due("a side and itself", Calls.pair(false, false, "e eE").same(0, 0), -3);
    }

    private static void noWhereOneIsDone() {
        StepShake x = Calls.pairAfter(1, false, false, "e eE");
        x.write(1);
        check.due("same where the second is DONE", x.same(0, 1), -3);
        check.due("same where the first is DONE", x.same(1, 0), -3);
        x.read(0);
        check.due("both", x.same(0, 1), 1);
    }

    private static void noBehindAgain() {
        StepShake x = Calls.donePair(false, false, "e eE");
        x.again(1);
        check.due("same where one began anew", x.same(0, 1), -3);
        check.due("the other way", x.same(1, 0), -3);
    }

    private static void badGoesFirst() {
        StepShake x = Calls.pair(false, false, "e eE");
        check.due("one that is not DONE and none", x.same(0, 2), -2);
        check.due("none and one that is not DONE", x.same(-1, 0), -2);
    }

    private static void sameEitherWay() {
        StepShake x = Calls.donePair(false, false, "e eE");
        check.due("same(0, 1)", x.same(0, 1), 1);
        check.due("same(1, 0)", x.same(1, 0), 1);
    }

    private static void everyPublishedPattern() {
        String[] good = {"0e eE", "0e eEsF", "0e eE sG", "2eF eE", "2eF eE sG", "0e eEsF sG", "1e eEG", "3eFS eEG",
            "1e eEGsF", "0es eEG", "2eFsS eEG", "0es eEGsF", "2eF", "3eFS", "2eFsS", "0e", "0s s", "3e e E F G S"};
        for (String one : good) {
            int known = one.charAt(0) - '0';
            StepShake x = Calls.donePair((known & 1) != 0, (known & 2) != 0, one.substring(1));
            check.due("same of '" + one + "'", x.same(0, 1), 1);
        }
    }

    private static void countsDoNotMatter() {
        StepShake x = Calls.donePair(false, false, "e eE");
        x.write(0);
        x.write(0);
        x.read(1);
        x.write(1);
        x.read(0);
        check.due("same behind letters", x.same(0, 1), 1);
    }

    /** Without a DH keys come of the name alone, so that only h tells them apart. */
    private static void anotherH() {
        StepShake x = Calls.pair(false, false, "e");
        x.write(0);
        x.alter(3, 1);
        x.read(1);
        check.due("another e", x.same(0, 1), 0);
        x = Calls.pair(false, false, "e");
        x.feed(1, 1);
        x.write(0);
        x.alter(32, 1);
        x.read(1);
        check.due("another payload", x.same(0, 1), 0);
        x = Calls.pair(false, false, "e");
        x.feed(1, 1);
        x.write(0);
        x.cut(32);
        x.read(1);
        check.due("no payload", x.same(0, 1), 0);
    }

    /** Two that never read each other's last letter have another h, and keys of another ee. */
    private static void anotherKey() {
        StepShake x = new StepShake();
        Calls.tell(x, false, false, "e eE");
        x.side(0, 0, -1, -1, 50);
        x.side(0, 1, -1, -1, 70);
        x.side(0, 1, -1, -1, 71);
        x.write(0);
        x.read(1);
        x.read(2);
        x.write(2);
        x.write(1);
        x.read(0);
        check.due("who was read", x.same(0, 1), 1);
        check.due("who was not", x.same(0, 2), 0);
        check.due("the other way", x.same(2, 0), 0);
    }

    private static void oneHand() {
        StepShake x = Calls.donePair(false, false, "e eE");
        check.due("a side and itself", x.same(0, 0), 0);
        check.due("the other and itself", x.same(1, 1), 0);
        x = Calls.pair(false, false, "e");
        x.side(0, 1, -1, -1, 70);
        x.write(0);
        x.read(1);
        check.due("NO goes ahead of the HANDS", x.same(1, 2), -3);
        x.read(2);
        check.due("two of HAND 1 that read one letter", x.same(1, 2), 0);
        check.due("each is the same as who wrote", x.same(0, 1) + x.same(2, 0), 2);
    }

    private static void ofTwoPairs() {
        StepShake x = Calls.donePair(false, false, "e eE");
        x.side(0, 0, -1, -1, 51);
        x.side(0, 1, -1, -1, 71);
        x.write(2);
        x.read(3);
        x.write(3);
        x.read(2);
        check.due("the first pair", x.same(0, 1), 1);
        check.due("the second pair", x.same(2, 3), 1);
        check.due("one of each", x.same(0, 3), 0);
        check.due("one of each, the other way", x.same(1, 2), 0);
    }

    private static void changesNothing() {
        Calls.refused(check, "same(0, 1)", 1, () -> Calls.donePair(false, false, "e eE"), x -> x.same(0, 1));
        Calls.refused(check, "same(0, 2)", -2, () -> Calls.donePair(false, false, "e eE"), x -> x.same(0, 2));
    }
}
