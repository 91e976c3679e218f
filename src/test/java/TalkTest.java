import java.util.Arrays;

/** Promises 9 to 14: feed, write, read, alter, cut, byteOf. */
public final class TalkTest {
    private static final Check check = new Check("TalkTest");
    private static final byte[] NOTHING = {};

    public static void main(String[] args) {
        feed();
        stepByStep();
        doneBothWays();
        everySizeOfPayload();
        whoseTurn();
        shortLetters();
        shortGoesAheadOfFalse();
        falseChangesNothing();
        everyBitIsLookedAt();
        learnedSGoesAheadOfTold();
        strangePoints();
        longestLetter();
        longestPlainPayload();
        alterAndCut();
        byteOf();
        check.end();
    }

    private static void isRow(String what, byte[] got, byte[] want) {
        check.holds(what + " is as due", Arrays.equals(got, want));
    }

    private static void feed() {
        StepShake x = new StepShake();
        check.due("feed of 0", x.feed(1, 0), -2);
        check.due("feed of 9", x.feed(1, 9), -2);
        check.due("feed of -1", x.feed(1, -1), -2);
        check.due("feed of the greatest int", x.feed(1, Integer.MAX_VALUE), -2);
        check.due("feed of 3", x.feed(0x1122334455667788L, 3), 3);
        check.due("feed of 8", x.feed(0xf1e2d3c4b5a69788L, 8), 11);
        check.due("feed of 1", x.feed(-1, 1), 12);
        isRow("THE TAPE", Calls.row(x, 2), Published.bytes("667788f1e2d3c4b5a69788ff"));
        for (int i = 0; i < 6; i++) {
            x.feed(i, 8);
        }
        check.due("count(2)", x.count(2), 60);
        check.due("feed above 64", x.feed(0, 5), -4);
        check.due("nothing came", x.count(2), 60);
        check.due("a bad feed goes ahead", x.feed(0, 9), -2);
        check.due("feed up to 64", x.feed(0, 4), 64);
        check.due("feed of a full tape", x.feed(0, 1), -4);
    }

    /** IK with payloads, each letter made here by hand. */
    private static void stepByStep() {
        StepShake x = Calls.pair(false, true, "eFsS eEG");
        byte[] s0 = Published.secret(5, 0), s1 = Published.secret(7, 0);
        byte[] e0 = Published.secret(50, 1), e1 = Published.secret(70, 1);
        byte[] ck = Arrays.copyOf("Handshake by steps".getBytes(), 32);
        byte[] h = Published.hash(ck, Published.publicOf(s1));
        byte[] first = "one".getBytes(), second = "twice".getBytes();

        h = Published.hash(h, Published.publicOf(e0));
        byte[][] keys = Published.keys(ck, Published.dh(e0, Published.publicOf(s1)));
        byte[] sealedS = Published.seal(keys[1], 0, h, Published.publicOf(s0));
        h = Published.hash(h, sealedS);
        keys = Published.keys(keys[0], Published.dh(s0, Published.publicOf(s1)));
        byte[] payload = Published.seal(keys[1], 0, h, first);
        h = Published.hash(h, payload);
        Calls.feedAll(x, first);
        check.due("write(0)", x.write(0), 32 + 48 + 3 + 16);
        isRow("the first letter", Calls.row(x, 0), Published.join(Published.publicOf(e0), sealedS, payload));
        check.due("THE TAPE is empty then", x.count(2), 0);
        isRow("h of who wrote", Calls.h(x, 0), h);
        check.due("read(1)", x.read(1), 3);
        isRow("what was GOT", Calls.row(x, 1), first);
        isRow("h of who read", Calls.h(x, 1), h);
        check.due("THE LETTER stays", x.count(3), 99);

        h = Published.hash(h, Published.publicOf(e1));
        keys = Published.keys(keys[0], Published.dh(e1, Published.publicOf(e0)));
        keys = Published.keys(keys[0], Published.dh(e1, Published.publicOf(s0)));
        payload = Published.seal(keys[1], 0, h, second);
        h = Published.hash(h, payload);
        Calls.feedAll(x, second);
        check.due("write(1)", x.write(1), 32 + 5 + 16);
        isRow("the second letter", Calls.row(x, 0), Published.join(Published.publicOf(e1), payload));
        check.due("read(0)", x.read(0), 5);
        isRow("what was GOT", Calls.row(x, 1), second);
        isRow("h at the end", Calls.h(x, 0), h);
        isRow("h at the end of the other", Calls.h(x, 1), h);

        byte[][] ends = Published.keys(keys[0], NOTHING);
        for (int n = 0; n < 3; n++) {
            Calls.feedAll(x, first);
            check.due("write(0), DONE", x.write(0), 19);
            isRow("HAND 0's letter " + n, Calls.row(x, 0), Published.seal(ends[0], n, NOTHING, first));
            Calls.feedAll(x, second);
            check.due("write(1), DONE", x.write(1), 21);
            isRow("HAND 1's letter " + n, Calls.row(x, 0), Published.seal(ends[1], n, NOTHING, second));
        }
    }

    private static void doneBothWays() {
        StepShake x = Calls.donePair(false, false, "e eE sG");
        for (int n = 0; n < 4; n++) {
            x.feed(n, 2);
            x.write(0);
            check.due("read(1), DONE", x.read(1), 2);
            check.due("what was GOT", x.byteOf(1, 1), n);
            check.due("the same letter twice", x.read(1), -6);
            check.due("one's own letter", x.read(0), -6);
            check.due("what was GOT stays", x.count(4), 2);
        }
        x.write(1);
        check.due("an empty one the other way", x.read(0), 0);
        check.due("GOT is empty", x.count(4), 0);
        x.write(0);
        x.write(0);
        check.due("one letter was left out", x.read(1), -6);
        check.due("n of what is sent", x.about(0, 5), 6);
        check.due("n of what the other sends", x.about(1, 5), 1);
        x.write(0);
        x.cut(15);
        check.due("15 bytes", x.read(1), -5);
    }

    /** Every size from 0 to 64 once plain, once sealed with h, once DONE: all paddings of hash and tag. */
    private static void everySizeOfPayload() {
        for (int size = 0; size <= 64; size++) {
            Both both = new Both(check, "payload of " + size);
            both.tell(false, false, "e eE");
            both.side(0, 0, -1, -1, size);
            both.side(0, 1, -1, -1, -size);
            for (int m = 0; m < 4; m++) {
                for (int i = 0; i < size; i++) {
                    both.feed(31 * size + 7 * i + m, 1);
                }
                both.write(m & 1);
                both.read(1 - (m & 1));
                both.digest();
            }
        }
    }

    private static void whoseTurn() {
        StepShake x = Calls.pair(false, false, "e eE sG");
        check.due("write(2)", x.write(2), -2);
        check.due("write(-1)", x.write(-1), -2);
        check.due("read(2)", x.read(2), -2);
        check.due("read(-1)", x.read(-1), -2);
        x.feed(9, 1);
        check.due("HAND 1 writes first", x.write(1), -3);
        check.due("a refused write leaves THE TAPE", x.count(2), 1);
        check.due("HAND 0 reads first", x.read(0), -3);
        check.due("nothing to read", x.read(1), -5);
        check.due("write(0)", x.write(0), 33);
        check.due("HAND 0 writes again", x.write(0), -3);
        check.due("a refused write leaves THE LETTER", x.count(3), 33);
        check.due("HAND 0 reads its own as the other's", x.read(0), -5);
        check.due("HAND 1 writes unread", x.write(1), -3);
        check.due("read(1)", x.read(1), 1);
        check.due("read twice", x.read(1), -3);
        check.due("write(1)", x.write(1), 48);
        check.due("write twice", x.write(1), -3);
        check.due("read(0)", x.read(0), 0);
        check.due("write(0)", x.write(0), 64);
        check.due("who is DONE writes at once", x.write(0), 16);
        check.due("who is not does not", x.write(1), -3);
        check.due("SHORT for who waits", x.read(1), -5);
    }

    private static void shortLetters() {
        // Least sizes: e 32; e, es, s 32 + 48 + 16; s plain 32; s, ss keyed at the end 32 + 16.
        shortest(false, false, "e", 32);
        shortest(false, false, "s", 32);
        shortest(false, false, "es", 64);
        shortest(false, true, "eF", 48);
        shortest(false, true, "eFs", 96);
        shortest(false, true, "seF", 80);
        shortest(false, true, "esF", 80);
    }

    private static void shortest(boolean known, boolean other, String messages, int least) {
        StepShake x = Calls.pair(known, other, messages);
        check.due("the letter of " + messages, x.write(0), least);
        long all = x.digest();
        x.cut(least - 1);
        check.due("one byte less of " + messages, x.read(1), -5);
        check.due("it did none of " + messages, x.about(1, 2), 0);
        x.cut(0);
        check.due("no byte of " + messages, x.read(1), -5);
        x.again(0);
        x.write(0);
        check.due("all of " + messages, x.read(1), 0);
        check.holds("a run differs from another", all != x.digest());
    }

    private static void shortGoesAheadOfFalse() {
        StepShake x = Calls.pair(false, true, "eFs eE");
        x.feed(0, 4);
        x.write(0);
        x.alter(40, 4);
        check.due("s with a wrong tag", x.read(1), -6);
        x.cut(96);
        check.due("the rest is enough for a tag", x.read(1), -6);
        x.cut(95);
        check.due("the rest is too short for a tag", x.read(1), -5);
    }

    private static void falseChangesNothing() {
        StepShake x = Calls.pair(false, true, "eFs eE");
        x.feed(77, 1);
        x.write(0);
        x.feed(88, 1);
        int size = x.count(3);
        int[] places = {0, 31, 32, 63, 64, 79, 80, 81, 96};
        for (int i : places) {
            x.alter(i, 16);
            long before = x.digest();
            check.due("read with byte " + i + " altered", x.read(1), -6);
            check.due("nothing changed", x.digest(), before);
            check.due("nothing was GOT", x.count(4), 0);
            check.due("THE TAPE stays", x.count(2), 1);
            x.alter(i, 16);
        }
        x.cut(size);
        check.due("read of what is whole again", x.read(1), 1);
        check.due("what was GOT", x.byteOf(1, 0), 77);
        check.due("write(1)", x.write(1), 49);
        x.alter(48, 1);
        check.due("read(0)", x.read(0), -6);
        check.due("what was GOT stays", x.byteOf(1, 0), 77);
        x.alter(48, 1);
        check.due("read(0)", x.read(0), 1);
        check.due("what was GOT", x.byteOf(1, 0), 88);
        check.due("same", x.same(0, 1), 1);
        x.feed(99, 1);
        x.write(0);
        x.alter(0, 1);
        check.due("read, DONE", x.read(1), -6);
        check.due("what was GOT stays", x.byteOf(1, 0), 88);
        x.alter(0, 1);
        check.due("the count stayed", x.read(1), 1);
    }

    private static void everyBitIsLookedAt() {
        StepShake x = Calls.donePair(false, false, "e eE");
        x.feed(0x0102030405060708L, 8);
        x.write(0);
        for (int bit = 0; bit < 8 * 24; bit++) {
            x.alter(bit >> 3, 1 << (bit & 7));
            check.due("bit " + bit + " of what is sealed", x.read(1), -6);
            x.alter(bit >> 3, 1 << (bit & 7));
        }
        check.due("no bit", x.read(1), 8);
    }

    private static void learnedSGoesAheadOfTold() {
        Both both = new Both(check, "another s is told than is sent");
        both.tell(false, false, "e eEsF sG");
        both.side(0, 0, 1, 99, 10);
        both.side(0, 1, 2, 98, 20);
        for (int m = 0; m < 3; m++) {
            both.write(m & 1);
            both.read(1 - (m & 1));
        }
        check.due("both end the same", both.same(0, 1), 1);
        both.askAll();
    }

    /** THE LETTER's e becomes points that RFC 7748 has words for: beyond p, of low order, with the highest bit. */
    private static void strangePoints() {
        String[] points = {
            "0000000000000000000000000000000000000000000000000000000000000000",
            "0100000000000000000000000000000000000000000000000000000000000000",
            "0900000000000000000000000000000000000000000000000000000000000080",
            "e0eb7a7c3b41b8ae1656e3faf19fc46ada098deb9c32b1fd866205165f49b800",
            "5f9c95bca3508c24b1d0b1559c83ef5b04445cc4581c8e86d8224eddd09f1157",
            "ecffffffffffffffffffffffffffffffffffffffffffffffffffffffffffff7f",
            "edffffffffffffffffffffffffffffffffffffffffffffffffffffffffffff7f",
            "eeffffffffffffffffffffffffffffffffffffffffffffffffffffffffffff7f",
            "f6ffffffffffffffffffffffffffffffffffffffffffffffffffffffffffff7f",
            "ffffffffffffffffffffffffffffffffffffffffffffffffffffffffffffff7f",
            "edffffffffffffffffffffffffffffffffffffffffffffffffffffffffffffff",
            "ffffffffffffffffffffffffffffffffffffffffffffffffffffffffffffffff",
            "ebffffffffffffffffffffffffffffffffffffffffffffffffffffffffffffff"};
        for (String point : points) {
            Both both = new Both(check, "e is " + point);
            both.tell(false, false, "e eE");
            both.side(0, 0, -1, -1, 10);
            both.side(0, 1, -1, -1, 20);
            both.write(0);
            byte[] want = Published.bytes(point);
            for (int i = 0; i < 32; i++) {
                both.alter(i, both.byteOf(0, i) ^ want[i] & 255);
            }
            both.read(1);
            both.write(1);
            both.digest();
            both.read(0);
        }
    }

    private static void longestLetter() {
        Both both = new Both(check, "the longest letter");
        both.tell(false, true, "eFsS eEG");
        both.side(0, 0, 5, 7, 1);
        both.side(0, 1, 7, -1, 2);
        for (int i = 0; i < 8; i++) {
            both.feed(0x0123456789abcdefL * (i + 1), 8);
        }
        check.due("its size", both.write(0), 160);
        check.due("what is GOT of it", both.read(1), 64);
        both.askAll();
    }

    private static void longestPlainPayload() {
        Both both = new Both(check, "160 bytes as another pattern's message");
        both.tell(false, true, "eFsS eEG");
        both.tell(false, false, "e eE");
        both.side(0, 0, 5, 7, 1);
        both.side(1, 1, -1, -1, 2);
        for (int i = 0; i < 8; i++) {
            both.feed(-i, 8);
        }
        both.write(0);
        check.due("all behind e is the payload", both.read(1), 128);
        both.askAll();
    }

    private static void alterAndCut() {
        StepShake x = Calls.pair(false, false, "e eE");
        x.feed(0xfe01, 2);
        x.write(0);
        check.due("alter(32, 255)", x.alter(32, 255), 0xfe);
        check.due("alter(32, 0)", x.alter(32, 0), 1);
        check.due("alter(33, 0)", x.alter(33, 0), 1);
        check.due("alter(34, 0)", x.alter(34, 0), -2);
        check.due("alter(-1, 0)", x.alter(-1, 0), -2);
        check.due("alter(0, 256)", x.alter(0, 256), -2);
        check.due("alter(0, -1)", x.alter(0, -1), -2);
        check.due("cut(35)", x.cut(35), -2);
        check.due("cut(-1)", x.cut(-1), -2);
        check.due("cut(34)", x.cut(34), 0);
        check.due("cut(33)", x.cut(33), 1);
        check.due("alter of what is cut off", x.alter(33, 0), -2);
        check.due("cut to more again", x.cut(34), -2);
        check.due("count(3)", x.count(3), 33);
        check.due("the reader has what is left", x.read(1), 1);
        check.due("as it was altered", x.byteOf(1, 0), 1);
        x.alter(32, 7);
        check.due("what was GOT is not THE LETTER", x.byteOf(1, 0), 1);
        check.due("cut(0)", x.cut(0), 33);
        check.due("cut(0) twice", x.cut(0), 0);
    }

    private static void byteOf() {
        StepShake x = Calls.pair(false, false, "e eE");
        x.feed(0xff7f, 2);
        check.due("THE TAPE", x.byteOf(2, 0), 0xff);
        check.due("THE TAPE's last", x.byteOf(2, 1), 0x7f);
        check.due("behind THE TAPE", x.byteOf(2, 2), -1);
        check.due("far behind", x.byteOf(2, Integer.MAX_VALUE), -1);
        check.due("ahead of THE TAPE", x.byteOf(2, -1), -1);
        x.write(0);
        x.read(1);
        check.due("THE TAPE is empty", x.byteOf(2, 0), -1);
        check.due("THE LETTER", x.byteOf(0, 32), 0xff);
        check.due("behind THE LETTER", x.byteOf(0, 34), -1);
        check.due("GOT", x.byteOf(1, 1), 0x7f);
        check.due("behind GOT", x.byteOf(1, 2), -1);
        check.due("byteOf(3, 0)", x.byteOf(3, 0), -2);
        check.due("byteOf(-1, 0)", x.byteOf(-1, 0), -2);
        check.due("byteOf(3, -1)", x.byteOf(3, -1), -2);
        x.cut(33);
        check.due("what is cut off", x.byteOf(0, 33), -1);
    }
}
