/** Promise 10: write. */
public final class P10WriteTest {
    private static final Check check = new Check("P10WriteTest");
    private static final byte[] NOTHING = {};

    public static void main(String[] args) {
        badSide();
        noForTheOtherHand();
        noAfterOwnMessage();
        doneWritesAtAnyTime();
        emptyPayload();
        fullPayload();
        everySizeOfPayload();
        tapeIsEmptyThen();
        letterIsReplaced();
        gotStays();
        longestLetter();
        shortestLetter();
        everyKindOfMessage();
        doneCounts();
        countsBeyondAByte();
        byHand();
        countOfOneKeyByHand();
        withoutAnyKeyByHand();
        check.end();
    }

    private static void badSide() {
        check.due("write(0) without sides", new StepShake().write(0), -2);
        for (int side : new int[] {Calls.MIN, -1, 2, 4, Calls.MAX}) {
            Calls.refused(check, "write(" + side + ")", -2, () -> {
                StepShake x = Calls.pairAfter(1, false, false, "e eE");
                x.feed(1, 2);
                return x;
            }, x -> x.write(side));
        }
    }

    private static void noForTheOtherHand() {
        for (int m = 0; m < 6; m++) {
            int did = m;
            Calls.refused(check, "write ahead of message " + m, -3, () -> {
                StepShake x = Calls.pairAfter(did, true, true, "e e E F G S");
                x.feed(9, 1);
                return x;
            }, x -> x.write(1 - (did & 1)));
        }
    }

    private static void noAfterOwnMessage() {
        for (int m = 0; m < 5; m++) {
            int did = m;
            Calls.refused(check, "a second write in message " + m, -3, () -> {
                StepShake x = Calls.pairAfter(did, true, true, "e e E F G S");
                x.write(did & 1);
                return x;
            }, x -> x.write(did & 1));
        }
    }

    private static void doneWritesAtAnyTime() {
        StepShake x = Calls.donePair(false, false, "e eE");
        for (int side : new int[] {1, 1, 0, 0, 1, 0}) {
            check.due("write(" + side + "), DONE", x.write(side), 16);
        }
        x = Calls.pairAfter(1, false, false, "e eE");
        check.due("the last MESSAGE", x.write(1), 48);
        check.due("its writer is DONE", x.write(1), 16);
        check.due("the other is not", x.write(0), -3);
        x = Calls.pair(false, true, "eF");
        check.due("the only MESSAGE", x.write(0), 48);
        check.due("DONE by it", x.write(0), 16);
        check.due("HAND 1 is not", x.write(1), -3);
    }

    private static void emptyPayload() {
        StepShake x = Calls.pair(false, false, "e eE sG");
        check.due("without k", x.write(0), 32);
        x.read(1);
        check.due("with k", x.write(1), 48);
        x.read(0);
        check.due("the last", x.write(0), 64);
        check.due("DONE", x.write(0), 16);
    }

    private static void fullPayload() {
        StepShake x = Calls.pair(false, false, "e eE sG");
        int[] want = {96, 112, 128, 80};
        for (int m = 0; m < 4; m++) {
            Calls.feedFull(x);
            check.due("with 64 bytes, " + m, x.write(m & 1), want[m]);
            check.due("read", x.read(1 - (m & 1)), 64);
        }
    }

    /** Every size from 0 to 64 once plain, once sealed with h, twice DONE: all paddings of hash and tag. */
    private static void everySizeOfPayload() {
        for (int size = 0; size <= 64; size++) {
            Both both = new Both(check, "payload of " + size);
            both.tell(false, false, "e eE");
            both.side(0, 0, -1, -1, size);
            both.side(0, 1, -1, -1, -size);
            for (int m = 0; m < 4; m++) {
                for (int i = 0; i < size; i++) {
                    both.feed(31 * size + 7 * i + m, 1);
                }
                both.write(m & 1);
                both.read(1 - (m & 1));
                both.digest();
            }
        }
    }

    private static void tapeIsEmptyThen() {
        StepShake x = Calls.pair(false, false, "e eE");
        x.feed(1, 5);
        check.due("write", x.write(0), 37);
        check.due("count(2)", x.count(2), 0);
        check.due("byteOf(2, 0)", x.byteOf(2, 0), -1);
        x.read(1);
        check.due("the next write has none of it", x.write(1), 48);
        x.read(0);
        x.feed(1, 7);
        check.due("write, DONE", x.write(0), 23);
        check.due("count(2), DONE", x.count(2), 0);
    }

    private static void letterIsReplaced() {
        StepShake x = Calls.pair(false, false, "e eE");
        Calls.feedFull(x);
        x.write(0);
        x.read(1);
        check.due("a shorter letter", x.write(1), 48);
        check.due("count(3)", x.count(3), 48);
        check.due("nothing of the longer one is left", x.byteOf(0, 48), -1);
        x.cut(0);
        check.due("a letter in the place of one that was cut", x.write(1), 16);
        check.due("count(3)", x.count(3), 16);
    }

    private static void gotStays() {
        StepShake x = Calls.pair(false, false, "e eE");
        x.feed(0x4142, 2);
        x.write(0);
        x.read(1);
        x.feed(0x434445, 3);
        x.write(1);
        Calls.isRow(check, "what was GOT", Calls.row(x, 1), new byte[] {0x41, 0x42});
    }

    private static void longestLetter() {
        Both both = new Both(check, "the longest letter");
        both.tell(false, true, "eFsS eEG");
        both.side(0, 0, 5, 7, 1);
        both.side(0, 1, 7, -1, 2);
        for (int i = 0; i < 8; i++) {
            both.feed(0x0123456789abcdefL * (i + 1), 8);
        }
        check.due("its size", both.write(0), 160);
        both.byteOf(0, 159);
        check.due("behind it", both.byteOf(0, 160), -1);
        check.due("what is GOT of it", both.read(1), 64);
        both.ask();
    }

    private static void shortestLetter() {
        StepShake x = Calls.pairAfter(2, true, true, "e e E F G S");
        check.due("a MESSAGE of a DH alone", x.write(0), 16);
        check.due("read of it", x.read(1), 0);
    }

    private static void everyKindOfMessage() {
        size(0, "e", 0, 32);
        size(0, "s", 0, 32);
        size(0, "es", 0, 64);
        size(0, "e s", 1, 32);
        size(2, "eF", 0, 48);
        size(2, "eFs", 0, 96);
        size(2, "esF", 0, 80);
        size(2, "seF", 0, 80);
        size(0, "e eE", 1, 48);
        size(0, "e eEs", 1, 96);
        size(0, "e eE s", 2, 64);
        size(3, "eFS eEG", 1, 48);
        size(3, "e e E F G S", 5, 16);
    }

    /** With three bytes of payload. */
    private static void size(int known, String messages, int m, int want) {
        StepShake x = Calls.pairAfter(m, (known & 1) != 0, (known & 2) != 0, messages);
        x.feed(0x010203, 3);
        check.due("message " + m + " of '" + messages + "'", x.write(m & 1), want + 3);
        check.due("read of it", x.read(1 - (m & 1)), 3);
        check.due("its last byte", x.byteOf(1, 2), 3);
    }

    private static void doneCounts() {
        StepShake x = Calls.donePair(false, false, "e eE");
        for (int n = 1; n <= 3; n++) {
            x.write(0);
            check.due("n of who writes", x.about(0, 5), n);
        }
        check.due("n of who does not", x.about(1, 5), 0);
        x.write(1);
        check.due("each has its own", x.about(0, 5), 3);
        check.due("each has its own", x.about(1, 5), 1);
    }

    /** The count's second byte in the nonce. */
    private static void countsBeyondAByte() {
        StepShake x = Calls.pair(false, false, "e");
        x.write(0);
        byte[][] ends = Published.keys(Calls.name(), NOTHING);
        for (int n = 0; n < 255; n++) {
            x.write(0);
        }
        for (int n = 255; n < 259; n++) {
            check.due("n", x.about(0, 5), n);
            x.write(0);
            Calls.isRow(check, "letter " + n, Calls.row(x, 0), Published.seal(ends[0], n, NOTHING, NOTHING));
        }
    }

    /** IK with payloads, each letter made here by hand. */
    private static void byHand() {
        StepShake x = Calls.pair(false, true, "eFsS eEG");
        byte[] s0 = Published.secret(5, 0), s1 = Published.secret(7, 0);
        byte[] e0 = Published.secret(50, 1), e1 = Published.secret(70, 1);
        byte[] h = Published.hash(Calls.name(), Published.publicOf(s1));
        byte[] first = "one".getBytes(), second = "twice".getBytes();

        h = Published.hash(h, Published.publicOf(e0));
        byte[][] keys = Published.keys(Calls.name(), Published.dh(e0, Published.publicOf(s1)));
        byte[] sealedS = Published.seal(keys[1], 0, h, Published.publicOf(s0));
        h = Published.hash(h, sealedS);
        keys = Published.keys(keys[0], Published.dh(s0, Published.publicOf(s1)));
        byte[] payload = Published.seal(keys[1], 0, h, first);
        h = Published.hash(h, payload);
        Calls.feedAll(x, first);
        check.due("write(0)", x.write(0), 32 + 48 + 3 + 16);
        Calls.isRow(check, "the first letter", Calls.row(x, 0),
                Published.join(Published.publicOf(e0), sealedS, payload));
        Calls.isRow(check, "h of who wrote", Calls.h(x, 0), h);
        check.due("read(1)", x.read(1), 3);
        Calls.isRow(check, "what was GOT", Calls.row(x, 1), first);
        Calls.isRow(check, "h of who read", Calls.h(x, 1), h);

        h = Published.hash(h, Published.publicOf(e1));
        keys = Published.keys(keys[0], Published.dh(e1, Published.publicOf(e0)));
        keys = Published.keys(keys[0], Published.dh(e1, Published.publicOf(s0)));
        payload = Published.seal(keys[1], 0, h, second);
        h = Published.hash(h, payload);
        Calls.feedAll(x, second);
        check.due("write(1)", x.write(1), 32 + 5 + 16);
        Calls.isRow(check, "the second letter", Calls.row(x, 0), Published.join(Published.publicOf(e1), payload));
        check.due("read(0)", x.read(0), 5);
        Calls.isRow(check, "h at the end", Calls.h(x, 0), h);

        byte[][] ends = Published.keys(keys[0], NOTHING);
        for (int n = 0; n < 2; n++) {
            Calls.feedAll(x, first);
            check.due("write(0), DONE", x.write(0), 19);
            Calls.isRow(check, "HAND 0's letter " + n, Calls.row(x, 0), Published.seal(ends[0], n, NOTHING, first));
            Calls.feedAll(x, second);
            check.due("write(1), DONE", x.write(1), 21);
            Calls.isRow(check, "HAND 1's letter " + n, Calls.row(x, 0), Published.seal(ends[1], n, NOTHING, second));
        }
    }

    /** One k over three SEALS and two MESSAGES: n goes on from who writes to who reads. */
    private static void countOfOneKeyByHand() {
        StepShake x = Calls.pairAfter(1, false, false, "e eEs s");
        byte[] e0 = Published.secret(50, 1), e1 = Published.secret(70, 1);
        byte[] h = Published.hash(Published.hash(Calls.name(), Published.publicOf(e0)), NOTHING);
        h = Published.hash(h, Published.publicOf(e1));
        byte[] k = Published.keys(Calls.name(), Published.dh(e1, Published.publicOf(e0)))[1];
        byte[] sealedS = Published.seal(k, 0, h, Calls.publicOf(7, 0));
        h = Published.hash(h, sealedS);
        byte[] payload = Published.seal(k, 1, h, NOTHING);
        h = Published.hash(h, payload);
        x.write(1);
        Calls.isRow(check, "the second letter", Calls.row(x, 0),
                Published.join(Published.publicOf(e1), sealedS, payload));
        check.due("n of who wrote", x.about(1, 5), 2);
        x.read(0);
        check.due("n of who read", x.about(0, 5), 2);
        sealedS = Published.seal(k, 2, h, Calls.publicOf(5, 0));
        h = Published.hash(h, sealedS);
        payload = Published.seal(k, 3, h, NOTHING);
        x.write(0);
        Calls.isRow(check, "the third letter", Calls.row(x, 0), Published.join(sealedS, payload));
        check.due("read of it", x.read(1), 0);
    }

    /** No DH at all: all is plain, and DONE the keys come of the name. */
    private static void withoutAnyKeyByHand() {
        StepShake x = Calls.pair(false, false, "se");
        x.feed(0x0102, 2);
        x.write(0);
        byte[] s = Calls.publicOf(5, 0), e = Calls.publicOf(50, 1), payload = {1, 2};
        Calls.isRow(check, "the letter", Calls.row(x, 0), Published.join(s, e, payload));
        byte[] h = Published.hash(Published.hash(Published.hash(Calls.name(), s), e), payload);
        Calls.isRow(check, "h", Calls.h(x, 0), h);
        x.read(1);
        Calls.isRow(check, "h of who read", Calls.h(x, 1), h);
        byte[][] ends = Published.keys(Calls.name(), NOTHING);
        x.write(1);
        Calls.isRow(check, "HAND 1's letter", Calls.row(x, 0), Published.seal(ends[1], 0, NOTHING, NOTHING));
    }
}
