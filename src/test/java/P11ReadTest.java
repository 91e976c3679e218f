/** Promise 11: read. */
public final class P11ReadTest {
    private static final Check check = new Check("P11ReadTest");

    public static void main(String[] args) {
        badSide();
        noWhereItsOwnIsNext();
        noGoesAheadOfShort();
        noLetterIsShort();
        shortInEveryKindOfMessage();
        shortWhenDone();
        shortChangesNothing();
        falseAtEveryByte();
        falseAtEveryBitWhenDone();
        falseChangesNothing();
        falseOfSChangesNothing();
        shortGoesAheadOfFalse();
        plainLettersHaveNoTag();
        tooLongIsFalse();
        letterStays();
        gotIsReplaced();
        gotStaysWhereRefused();
        tapeStays();
        whatIsLearned();
        learnedSGoesAheadOfTold();
        doneReadsInOrder();
        doneReadsNotItsOwn();
        manyLettersWhenDone();
        strangePoints();
        longestPlainPayload();
        longestSealedPayload();
        check.end();
    }

    private static void badSide() {
        check.due("read(0) without sides", new StepShake().read(0), -2);
        for (int side : new int[] {Calls.MIN, -1, 2, 4, Calls.MAX}) {
            Calls.refused(check, "read(" + side + ")", -2, () -> {
                StepShake x = Calls.pair(false, false, "e eE");
                x.write(0);
                return x;
            }, x -> x.read(side));
        }
    }

    private static void noWhereItsOwnIsNext() {
        for (int m = 0; m < 6; m++) {
            int did = m;
            Calls.refused(check, "read of whose message " + m + " is", -3,
                    () -> Calls.pairAfter(did, true, true, "e e E F G S"), x -> x.read(did & 1));
        }
        StepShake x = Calls.pair(false, false, "e eE sG");
        x.write(0);
        x.read(1);
        check.due("the same letter a second time", x.read(1), -3);
    }

    private static void noGoesAheadOfShort() {
        check.due("no letter, its own message", Calls.pair(false, false, "e eE").read(0), -3);
        StepShake x = Calls.pairAfter(1, false, false, "e eE");
        x.cut(1);
        check.due("a short letter, its own message", x.read(1), -3);
    }

    private static void noLetterIsShort() {
        Calls.refused(check, "read without a letter", -5, () -> Calls.pair(false, false, "e eE"), x -> x.read(1));
    }

    private static void shortInEveryKindOfMessage() {
        least(0, "e", 0, 32);
        least(0, "s", 0, 32);
        least(0, "es", 0, 64);
        least(0, "se", 0, 64);
        least(0, "e s", 1, 32);
        least(2, "eF", 0, 48);
        least(2, "eFs", 0, 96);
        least(2, "esF", 0, 80);
        least(2, "seF", 0, 80);
        least(2, "eFsS eEG", 0, 96);
        least(0, "e eE", 1, 48);
        least(0, "e eEs", 1, 96);
        least(0, "e eEsF", 1, 96);
        least(0, "e eE s", 2, 64);
        least(0, "e eE sG", 2, 64);
        least(2, "eF eE", 1, 48);
        least(3, "e e E F G S", 2, 16);
        least(3, "e e E F G S", 5, 16);
    }

    /** Every size below the least is SHORT; with the least the letter is read, since its payload is empty. */
    private static void least(int known, String messages, int m, int least) {
        boolean first = (known & 1) != 0, second = (known & 2) != 0;
        String name = "message " + m + " of '" + messages + "'";
        StepShake x = Calls.pairAfter(m, first, second, messages);
        check.due(name, x.write(m & 1), least);
        check.due(name + ", all of it", x.read(1 - (m & 1)), 0);
        x = Calls.pairAfter(m, first, second, messages);
        x.write(m & 1);
        for (int size = least - 1; size >= 0; size--) {
            x.cut(size);
            check.due(name + ", only " + size, x.read(1 - (m & 1)), -5);
        }
        check.due(name + ": none of it was done", x.about(1 - (m & 1), 2), m);
    }

    private static void shortWhenDone() {
        for (int hand = 0; hand < 2; hand++) {
            StepShake x = Calls.donePair(false, false, "e eE");
            x.write(hand);
            check.due("16 bytes", x.read(1 - hand), 0);
            x.write(hand);
            for (int size = 15; size >= 0; size--) {
                x.cut(size);
                check.due("only " + size + ", DONE", x.read(1 - hand), -5);
            }
        }
    }

    private static void shortChangesNothing() {
        for (int size : new int[] {0, 31, 32, 79, 80, 95}) {
            Calls.refused(check, "read of " + size + " of 96", -5, () -> {
                StepShake x = Calls.pairAfter(1, false, false, "e eEsF");
                x.write(1);
                x.cut(size);
                return x;
            }, x -> x.read(0));
        }
        Calls.refused(check, "read of 15 of 16, DONE", -5, () -> {
            StepShake x = Calls.donePair(false, false, "e eE");
            x.write(1);
            x.cut(15);
            return x;
        }, x -> x.read(0));
        // The whole letter is still read by who refused a short one.
        StepShake x = Calls.pair(false, true, "eFs eE");
        x.write(0);
        x.cut(95);
        check.due("one byte is missing", x.read(1), -5);
        x.again(0);
        x.write(0);
        check.due("another letter, whole", x.read(1), 0);
    }

    /** e 0 .. 31, s 32 .. 79, the payload 80 .. 82 and its tag. */
    private static void falseAtEveryByte() {
        StepShake x = Calls.pair(false, true, "eFs eE");
        x.feed(0x010203, 3);
        check.due("write(0)", x.write(0), 99);
        for (int i = 0; i < 99; i++) {
            x.alter(i, 128);
            check.due("byte " + i + " is another", x.read(1), -6);
            x.alter(i, 128);
        }
        check.due("no byte is another", x.read(1), 3);
    }

    private static void falseAtEveryBitWhenDone() {
        for (int odd = 0; odd < 2; odd++) {
            StepShake x = Calls.donePair(false, false, "e eE");
            x.feed(0x0102030405060708L, 8);
            x.write(0);
            for (int bit = odd; bit < 8 * 24; bit += 2) {
                x.alter(bit >> 3, 1 << (bit & 7));
                check.due("bit " + bit + " of what is sealed", x.read(1), -6);
                x.alter(bit >> 3, 1 << (bit & 7));
            }
            check.due("no bit", x.read(1), 8);
        }
    }

    private static void falseChangesNothing() {
        for (int place : new int[] {0, 31, 32, 63, 64, 79, 80, 81, 96}) {
            Calls.refused(check, "read with byte " + place + " altered", -6, () -> {
                StepShake x = Calls.pair(false, true, "eFs eE");
                x.feed(77, 1);
                x.write(0);
                x.feed(88, 1);
                x.alter(place, 16);
                return x;
            }, x -> x.read(1));
        }
        Calls.refused(check, "read with a byte altered, DONE", -6, () -> {
            StepShake x = Calls.donePair(false, false, "e eE");
            x.feed(99, 1);
            x.write(0);
            x.alter(0, 1);
            return x;
        }, x -> x.read(1));
        StepShake x = Calls.donePair(false, false, "e eE");
        x.feed(99, 1);
        x.write(0);
        x.alter(16, 1);
        check.due("read, DONE", x.read(1), -6);
        x.alter(16, 1);
        check.due("the count stayed", x.read(1), 1);
    }

    /** s is right and the payload's tag is not: what s brought is not learned either. */
    private static void falseOfSChangesNothing() {
        StepShake x = new StepShake();
        Calls.tell(x, false, false, "e eEsF");
        x.side(0, 0, -1, -1, 50);
        x.side(0, 1, 7, -1, 70);
        x.write(0);
        x.read(1);
        x.write(1);
        x.alter(95, 1);
        long before = x.digest();
        check.due("the last tag is wrong", x.read(0), -6);
        check.due("digest", x.digest(), before);
        check.due("e is not known", x.about(0, 6), 0);
        check.due("s is not known", x.about(0, 7), 0);
        check.due("there is no k", x.about(0, 4), 0);
        check.due("n", x.about(0, 5), 0);
        x.alter(95, 1);
        check.due("the last tag is right", x.read(0), 0);
        check.due("s is known", x.about(0, 7), 1);
        check.due("same", x.same(0, 1), 1);
    }

    private static void shortGoesAheadOfFalse() {
        StepShake x = Calls.pair(false, true, "eFs eE");
        x.feed(0, 4);
        x.write(0);
        x.alter(40, 4);
        check.due("s with a wrong tag", x.read(1), -6);
        x.cut(96);
        check.due("the rest is enough for a tag", x.read(1), -6);
        x.cut(95);
        check.due("the rest is too short for a tag", x.read(1), -5);
    }

    private static void plainLettersHaveNoTag() {
        StepShake x = Calls.pair(false, false, "es eE");
        x.feed(0x0102, 2);
        x.write(0);
        x.alter(0, 1);
        x.alter(40, 1);
        x.alter(65, 0xf0);
        check.due("read of what is altered but plain", x.read(1), 2);
        check.due("GOT as it was altered", x.byteOf(1, 1), 0xf2);
        x.write(1);
        check.due("what is sealed behind that", x.read(0), -6);
        x = Calls.pair(false, false, "e eE");
        x.feed(0x0102, 2);
        x.write(0);
        x.cut(33);
        check.due("a plain payload that is cut", x.read(1), 1);
        x.write(1);
        check.due("h tells it apart", x.read(0), -6);
    }

    private static void tooLongIsFalse() {
        StepShake x = new StepShake();
        Calls.tell(x, false, true, "eFsS eEG");
        Calls.tell(x, false, true, "eF eE");
        x.side(0, 0, 5, 7, 1);
        x.side(1, 1, 7, -1, 2);
        x.write(0);
        check.due("a letter of 96 where 48 are enough", x.read(1), -6);
        StepShake y = Calls.donePair(false, false, "e eE");
        y.feed(1, 1);
        y.write(0);
        y.cut(16);
        check.due("17 bytes cut to 16, DONE", y.read(1), -6);
    }

    private static void letterStays() {
        StepShake x = Calls.pair(false, true, "eFs eE");
        x.feed(0x0102, 2);
        x.write(0);
        byte[] letter = Calls.row(x, 0);
        x.read(1);
        Calls.isRow(check, "THE LETTER after read", Calls.row(x, 0), letter);
        x.side(0, 1, 7, -1, 3);
        check.due("another side reads it too", x.read(2), 2);
    }

    private static void gotIsReplaced() {
        StepShake x = Calls.donePair(false, false, "e eE");
        Calls.feedFull(x);
        x.write(0);
        check.due("a long one", x.read(1), 64);
        x.feed(0x4142, 2);
        x.write(0);
        check.due("a shorter one", x.read(1), 2);
        check.due("count(4)", x.count(4), 2);
        check.due("behind it", x.byteOf(1, 2), -1);
        x.write(1);
        check.due("an empty one of the other side", x.read(0), 0);
        check.due("count(4)", x.count(4), 0);
    }

    private static void gotStaysWhereRefused() {
        StepShake x = Calls.donePair(false, false, "e eE");
        x.feed(0x4142, 2);
        x.write(0);
        x.read(1);
        x.feed(0x434445, 3);
        x.write(0);
        x.alter(18, 1);
        check.due("FALSE", x.read(1), -6);
        Calls.isRow(check, "GOT behind FALSE", Calls.row(x, 1), new byte[] {0x41, 0x42});
        x.cut(3);
        check.due("SHORT", x.read(1), -5);
        Calls.isRow(check, "GOT behind SHORT", Calls.row(x, 1), new byte[] {0x41, 0x42});
        x.again(0);
        check.due("NO", x.read(0), -3);
        check.due("BAD", x.read(2), -2);
        Calls.isRow(check, "GOT behind NO and BAD", Calls.row(x, 1), new byte[] {0x41, 0x42});
    }

    private static void tapeStays() {
        StepShake x = Calls.pair(false, false, "e eE");
        x.write(0);
        x.feed(0x4142, 2);
        x.read(1);
        Calls.isRow(check, "THE TAPE after read", Calls.row(x, 2), new byte[] {0x41, 0x42});
    }

    private static void whatIsLearned() {
        StepShake x = new StepShake();
        Calls.tell(x, false, false, "s eG eE");
        x.side(0, 0, 5, -1, 50);
        x.side(0, 1, -1, -1, 70);
        x.write(0);
        x.read(1);
        check.due("s is known", x.about(1, 7), 1);
        check.due("e is not", x.about(1, 6), 0);
        x.write(1);
        x.read(0);
        check.due("e is known", x.about(0, 6), 1);
        check.due("s is not", x.about(0, 7), 0);
        check.due("who reads uses no secret e", x.about(0, 8), 0);
    }

    private static void learnedSGoesAheadOfTold() {
        Both both = new Both(check, "another s is told than is sent");
        both.tell(false, false, "e eEsF sG");
        both.side(0, 0, 1, 99, 10);
        both.side(0, 1, 2, 98, 20);
        for (int m = 0; m < 3; m++) {
            both.write(m & 1);
            both.read(1 - (m & 1));
        }
        check.due("both end the same", both.same(0, 1), 1);
        both.ask();
    }

    private static void doneReadsInOrder() {
        StepShake x = Calls.donePair(false, false, "e eE sG");
        for (int n = 0; n < 4; n++) {
            x.feed(n, 2);
            x.write(0);
            check.due("read(1), DONE", x.read(1), 2);
            check.due("what was GOT", x.byteOf(1, 1), n);
            check.due("the same letter twice", x.read(1), -6);
        }
        x.write(0);
        x.write(0);
        check.due("one letter was left out", x.read(1), -6);
        check.due("who reads counts none of what it sends", x.about(1, 5), 0);
    }

    private static void doneReadsNotItsOwn() {
        StepShake x = Calls.donePair(false, false, "e eE sG");
        for (int side = 0; side < 2; side++) {
            x.write(side);
            check.due("one's own letter", x.read(side), -6);
            check.due("the other's", x.read(1 - side), 0);
        }
    }

    private static void manyLettersWhenDone() {
        StepShake x = Calls.donePair(false, false, "e eE");
        for (int n = 0; n < 240; n++) {
            x.write(1);
            check.due("letter " + n, x.read(0), 0);
        }
    }

    /**
     * THE LETTER's e becomes points that RFC 7748 has words for: of low order, with the highest bit, beyond p; and
     * small numbers, some of which lie on the curve and some on its twist.
     */
    private static void strangePoints() {
        String[] points = {
            "0000000000000000000000000000000000000000000000000000000000000000",
            "0100000000000000000000000000000000000000000000000000000000000000",
            "0200000000000000000000000000000000000000000000000000000000000000",
            "0300000000000000000000000000000000000000000000000000000000000000",
            "0400000000000000000000000000000000000000000000000000000000000000",
            "0500000000000000000000000000000000000000000000000000000000000000",
            "0600000000000000000000000000000000000000000000000000000000000000",
            "0900000000000000000000000000000000000000000000000000000000000080",
            "e0eb7a7c3b41b8ae1656e3faf19fc46ada098deb9c32b1fd866205165f49b800",
            "5f9c95bca3508c24b1d0b1559c83ef5b04445cc4581c8e86d8224eddd09f1157",
            "ecffffffffffffffffffffffffffffffffffffffffffffffffffffffffffff7f",
            "edffffffffffffffffffffffffffffffffffffffffffffffffffffffffffff7f",
            "eeffffffffffffffffffffffffffffffffffffffffffffffffffffffffffff7f",
            "f6ffffffffffffffffffffffffffffffffffffffffffffffffffffffffffff7f",
            "ffffffffffffffffffffffffffffffffffffffffffffffffffffffffffffff7f",
            "edffffffffffffffffffffffffffffffffffffffffffffffffffffffffffffff",
            "ffffffffffffffffffffffffffffffffffffffffffffffffffffffffffffffff",
            "ebffffffffffffffffffffffffffffffffffffffffffffffffffffffffffffff"};
        for (String point : points) {
            Both both = new Both(check, "e is " + point);
            both.tell(false, false, "e eE");
            both.side(0, 0, -1, -1, 10);
            both.side(0, 1, -1, -1, 20);
            both.write(0);
            byte[] want = Published.bytes(point);
            for (int i = 0; i < 32; i++) {
                both.alter(i, both.byteOf(0, i) ^ want[i] & 255);
            }
            both.read(1);
            both.write(1);
            both.digest();
            both.read(0);
        }
    }

    private static StepShake longest() {
        StepShake x = new StepShake();
        Calls.tell(x, false, true, "eFsS eEG");
        Calls.tell(x, false, false, "e eE");
        x.side(0, 0, 5, 7, 1);
        x.side(1, 1, -1, -1, 2);
        Calls.feedFull(x);
        x.write(0);
        return x;
    }

    private static void longestPlainPayload() {
        StepShake x = longest();
        check.due("all of 160 bytes behind e is the payload", x.read(1), 128);
        check.due("count(4)", x.count(4), 128);
        byte[] letter = Calls.row(x, 0);
        Calls.isRow(check, "what was GOT", Calls.row(x, 1), Published.part(letter, 32, 160));
    }

    private static void longestSealedPayload() {
        StepShake x = Calls.donePair(false, false, "e eE");
        Calls.feedFull(x);
        byte[] tape = Calls.row(x, 2);
        check.due("write, DONE", x.write(1), 80);
        check.due("read, DONE", x.read(0), 64);
        Calls.isRow(check, "what was GOT", Calls.row(x, 1), tape);
    }
}
