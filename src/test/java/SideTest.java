import java.util.Arrays;

/** Promises 7, 8, 15, 16, 17: side, again, hash, about, same. */
public final class SideTest {
    private static final Check check = new Check("SideTest");

    public static void main(String[] args) {
        badNumbers();
        refusedForKeys();
        fullLast();
        beginning();
        secretsE();
        again();
        againForgetsWhatWasRead();
        hash();
        about();
        same();
        sameHands();
        check.end();
    }

    private static void side(StepShake x, int pattern, int hand, int s, int other, int want) {
        check.due("side(" + pattern + ", " + hand + ", " + s + ", " + other + ", 0)",
                x.side(pattern, hand, s, other, 0), want);
    }

    private static void badNumbers() {
        StepShake x = new StepShake();
        side(x, 0, 0, 1, 1, -2);
        Calls.tell(x, false, false, "e eE");
        x.pattern(false, false);
        side(x, -1, 0, 1, 1, -2);
        side(x, 2, 0, 1, 1, -2);
        side(x, 0, -1, 1, 1, -2);
        side(x, 0, 2, 1, 1, -2);
        side(x, 0, 0, -2, 1, -2);
        side(x, 0, 0, 1, -2, -2);
        side(x, 0, 0, Integer.MIN_VALUE, 1, -2);
        side(x, 1, 0, 1, 1, -3);
        side(x, 1, 2, 1, 1, -2);
        side(x, 1, 0, 1, -2, -2);
        check.due("a refused side is none", x.count(1), 0);
        check.due("a refused side leaves the pattern open", x.message(0), 3);
        x.token(0, 0);
        side(x, 0, 0, 1, 1, -3);
    }

    private static void refusedForKeys() {
        StepShake x = new StepShake();
        Calls.tell(x, true, false, "e eE");
        Calls.tell(x, false, true, "e eE");
        Calls.tell(x, false, false, "e eE sG");
        Calls.tell(x, false, false, "e eEsF");
        side(x, 0, 0, -1, -1, -3);
        side(x, 0, 1, -1, -1, -3);
        side(x, 1, 0, -1, -1, -3);
        side(x, 1, 1, -1, -1, -3);
        side(x, 2, 0, -1, 1, -3);
        side(x, 3, 1, -1, 1, -3);
        side(x, 0, 1, 1, -1, -3);
        side(x, 1, 0, 1, -1, -3);
        side(x, 0, 0, 0, -1, 0);
        side(x, 0, 1, -1, 0, 1);
        side(x, 1, 0, -1, 0, 2);
        side(x, 1, 1, 0, -1, 3);
        x = new StepShake();
        Calls.tell(x, false, false, "e eE sG");
        Calls.tell(x, false, false, "e eEsF");
        side(x, 0, 0, Integer.MAX_VALUE, -1, 0);
        side(x, 0, 1, -1, -1, 1);
        side(x, 1, 0, -1, -1, 2);
        side(x, 1, 1, 0, -1, 3);
    }

    private static void fullLast() {
        StepShake x = Calls.pair(true, false, "e eEG");
        side(x, 0, 0, 1, -1, 2);
        side(x, 0, 1, -1, 1, 3);
        side(x, 0, 1, -1, 1, -4);
        side(x, 0, 0, -1, 1, -3);
        side(x, 0, 2, 1, 1, -2);
        check.due("count(1)", x.count(1), 4);
        check.due("again(4)", x.again(4), -2);
        check.due("write(4)", x.write(4), -2);
        check.due("read(4)", x.read(4), -2);
        check.due("hash(4, 0)", x.hash(4, 0), -2);
        check.due("about(4, 0)", x.about(4, 0), -2);
        check.due("same(4, 0)", x.same(4, 0), -2);
        check.due("same(0, 4)", x.same(0, 4), -2);
        Calls.tell(x, false, false, "e eE");
        side(x, 1, 0, 1, 1, -4);
        check.due("a side refused as FULL leaves the pattern open", x.message(1), 3);
    }

    private static byte[] name() {
        return Arrays.copyOf("Handshake by steps".getBytes(), 32);
    }

    private static byte[] publicOf(int v, int j) {
        return Published.publicOf(Published.secret(v, j));
    }

    private static void isH(String what, StepShake x, int side, byte[] want) {
        check.holds("h is as due: " + what, Arrays.equals(Calls.h(x, side), want));
    }

    private static void beginning() {
        byte[] first = publicOf(5, 0), second = publicOf(7, 0);
        isH("nobody known ahead", Calls.pair(false, false, "e eE"), 0, name());
        isH("nobody known ahead, though told", Calls.pair(false, false, "e eE"), 1, name());
        for (int side = 0; side < 2; side++) {
            isH("HAND 0 known", Calls.pair(true, false, "e eE"), side, Published.hash(name(), first));
            isH("HAND 1 known", Calls.pair(false, true, "e eE"), side, Published.hash(name(), second));
            isH("both known", Calls.pair(true, true, "e eE"), side,
                    Published.hash(Published.hash(name(), first), second));
        }
    }

    private static void secretsE() {
        StepShake x = new StepShake();
        Calls.tell(x, false, false, "e eE");
        x.side(0, 0, -1, -1, -3);
        for (int j = 0; j < 3; j++) {
            check.due("secrets used ahead of write " + j, x.about(0, 8), j);
            x.write(0);
            byte[] e = publicOf(-3, j + 1);
            check.holds("e number " + j + " is sent", Arrays.equals(Calls.row(x, 0), e));
            check.due("again", x.again(0), 1);
        }
        check.due("secrets used in all", x.about(0, 8), 3);
    }

    private static void again() {
        StepShake x = Calls.donePair(true, true, "eFS eEG");
        check.due("again(2)", x.again(2), -2);
        check.due("again(-1)", x.again(-1), -2);
        x.write(0);
        check.due("n, DONE", x.about(0, 5), 1);
        byte[] letter = Calls.row(x, 0);
        check.due("again of a DONE side", x.again(0), 2);
        int[] want = {0, 0, 0, 0, 0, 0, 0, 1, 1};
        for (int what = 0; what <= 8; what++) {
            check.due("about(0, " + what + ") of a side begun anew", x.about(0, what), want[what]);
        }
        isH("begun anew", x, 0, Calls.h(Calls.pair(true, true, "eFS eEG"), 0));
        check.holds("THE LETTER stays", Arrays.equals(letter, Calls.row(x, 0)));
        check.due("the other side is as it was", x.about(1, 3), 1);
        check.due("again at once", x.again(0), 0);
        check.due("again of the other", x.again(1), 2);
        x.write(0);
        check.due("a message after again", x.read(1), 0);
        x.write(1);
        check.due("and the next", x.read(0), 0);
        check.due("the second time they end the same", x.same(0, 1), 1);
        x.write(0);
        check.due("what is DONE reads from count 0 on again", x.read(1), 0);
    }

    private static void againForgetsWhatWasRead() {
        StepShake x = new StepShake();
        Calls.tell(x, false, false, "es eE");
        x.side(0, 0, 1, -1, 10);
        x.side(0, 1, -1, -1, 20);
        x.side(0, 1, -1, 9, 30);
        x.write(0);
        x.read(1);
        x.read(2);
        check.due("e is known once read", x.about(1, 6), 1);
        check.due("s is known once read", x.about(1, 7), 1);
        x.again(1);
        x.again(2);
        check.due("e read is forgotten", x.about(1, 6), 0);
        check.due("s read is forgotten", x.about(1, 7), 0);
        check.due("s told is not", x.about(2, 7), 1);
        x.read(1);
        check.due("it reads the same letter again", x.about(1, 2), 1);
        // s as told comes back: here es is done with it, not with one that was read.
        x = new StepShake();
        Calls.tell(x, false, true, "eF eE");
        x.side(0, 0, -1, 7, 10);
        x.side(0, 1, 7, -1, 20);
        x.write(0);
        x.read(1);
        x.again(0);
        x.again(1);
        x.write(0);
        check.due("the told s holds after again", x.read(1), 0);
    }

    private static void hash() {
        StepShake x = Calls.pair(false, false, "e eE");
        check.due("hash(0, 0)", x.hash(0, 0), 'H');
        check.due("hash(1, 17)", x.hash(1, 17), 's');
        check.due("hash(0, 31)", x.hash(0, 31), 0);
        check.due("hash(0, 32)", x.hash(0, 32), -2);
        check.due("hash(0, -1)", x.hash(0, -1), -2);
        check.due("hash(2, 0)", x.hash(2, 0), -2);
        check.due("hash(-1, 0)", x.hash(-1, 0), -2);
        x = Calls.donePair(false, false, "e eE");
        byte[] h = Calls.h(x, 0);
        x.write(0);
        x.read(1);
        isH("no MIX HASH of what is sent DONE", x, 0, h);
        isH("nor of what is read", x, 1, h);
    }

    private static void abouts(String when, StepShake x, int side, int... want) {
        for (int what = 0; what <= 8; what++) {
            check.due("about(" + side + ", " + what + ") " + when, x.about(side, what), want[what]);
        }
    }

    private static void about() {
        StepShake x = new StepShake();
        x.pattern(false, false);
        Calls.tell(x, false, false, "e eEsF sG");
        x.side(1, 1, 7, -1, 70);
        x.side(1, 0, 5, -1, 50);
        check.due("about(0, -1)", x.about(0, -1), -2);
        check.due("about(0, 9)", x.about(0, 9), -2);
        check.due("about(2, 0)", x.about(2, 0), -2);
        check.due("about(-1, 0)", x.about(-1, 0), -2);
        abouts("at first", x, 0, 1, 1, 0, 0, 0, 0, 0, 0, 0);
        abouts("at first", x, 1, 1, 0, 0, 0, 0, 0, 0, 0, 0);
        x.write(1);
        x.read(0);
        abouts("after e", x, 0, 1, 1, 1, 0, 0, 0, 1, 0, 0);
        abouts("after e", x, 1, 1, 0, 1, 0, 0, 0, 0, 0, 1);
        x.write(0);
        abouts("after e, ee, s, es", x, 0, 1, 1, 2, 0, 1, 1, 1, 0, 1);
        x.read(1);
        abouts("after e, ee, s, es", x, 1, 1, 0, 2, 0, 1, 1, 1, 1, 1);
        x.write(1);
        x.read(0);
        abouts("DONE", x, 0, 1, 1, 3, 1, 1, 0, 1, 1, 1);
        abouts("DONE", x, 1, 1, 0, 3, 1, 1, 0, 1, 1, 1);
        x.write(1);
        x.write(1);
        abouts("DONE, having sent", x, 1, 1, 0, 3, 1, 1, 2, 1, 1, 1);
        x = Calls.pair(false, false, "e e");
        abouts("told s", x, 0, 0, 0, 0, 0, 0, 0, 0, 1, 0);
        x.write(0);
        x.read(1);
        x.write(1);
        abouts("DONE without any DH", x, 1, 0, 1, 2, 1, 1, 0, 1, 1, 1);
        x = Calls.pair(true, true, "S");
        check.due("ss alone is a fault", x.count(1), 0);
        x = Calls.pair(false, true, "eFs eE");
        x.write(0);
        check.due("n counts s and the payload", x.about(0, 5), 2);
        x.read(1);
        check.due("n of who read", x.about(1, 5), 2);
    }

    private static void same() {
        StepShake x = Calls.pair(false, false, "e eE");
        check.due("same at first", x.same(0, 1), -3);
        check.due("same(0, 2)", x.same(0, 2), -2);
        check.due("same(2, 0)", x.same(2, 0), -2);
        check.due("same(-1, 0)", x.same(-1, 0), -2);
        check.due("same(0, -1)", x.same(0, -1), -2);
        x.write(0);
        x.read(1);
        x.write(1);
        check.due("same where one is DONE", x.same(0, 1), -3);
        check.due("the other way", x.same(1, 0), -3);
        x.read(0);
        check.due("same", x.same(0, 1), 1);
        check.due("the other way", x.same(1, 0), 1);
        x.write(0);
        check.due("counts do not matter", x.same(0, 1), 1);
        // Without a DH keys come of the name alone, so that h tells them apart.
        x = Calls.pair(false, false, "e e");
        x.write(0);
        x.alter(3, 1);
        x.read(1);
        x.write(1);
        x.read(0);
        check.due("both DONE with another h", x.same(0, 1), 0);
        // The e that is altered beyond its 255 bits is the same point: other h, same DH.
        x = Calls.pair(false, false, "e");
        x.write(0);
        x.alter(31, 128);
        x.read(1);
        check.due("both DONE, one bit of h's input is another", x.same(0, 1), 0);
    }

    private static void sameHands() {
        StepShake x = Calls.donePair(false, false, "e eE");
        check.due("a side and itself", x.same(0, 0), 0);
        check.due("the other and itself", x.same(1, 1), 0);
        x.side(0, 1, -1, -1, 70);
        check.due("not DONE goes ahead of the hands", x.same(1, 2), -3);
        x.again(0);
        x.again(1);
        x.write(0);
        x.read(1);
        x.read(2);
        x.write(1);
        x.write(2);
        check.due("two of HAND 1", x.same(1, 2), 0);
        x.read(0);
        check.due("who read HAND 1's other side", x.same(0, 2), 1);
        check.due("and not this one", x.same(0, 1), 0);
    }
}
