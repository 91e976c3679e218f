/** Promise 1: a new object. */
public final class P01NewObjectTest {
    private static final Check check = new Check("P01NewObjectTest");

    public static void main(String[] args) {
        noPatterns();
        noSides();
        emptyTape();
        noLetter();
        nothingGot();
        objectsAreApart();
        check.end();
    }

    private static void noPatterns() {
        StepShake x = new StepShake();
        check.due("count(0)", x.count(0), 0);
        check.due("message(0)", x.message(0), -2);
        check.due("token(0, 0)", x.token(0, 0), -2);
        check.due("fault(0)", x.fault(0), -2);
        check.due("told(0, 0)", x.told(0, 0), -2);
        check.due("side(0, 0, 1, 1, 1)", x.side(0, 0, 1, 1, 1), -2);
        check.due("the first pattern", x.pattern(false, false), 0);
    }

    private static void noSides() {
        StepShake x = new StepShake();
        check.due("count(1)", x.count(1), 0);
        check.due("again(0)", x.again(0), -2);
        check.due("write(0)", x.write(0), -2);
        check.due("read(0)", x.read(0), -2);
        check.due("hash(0, 0)", x.hash(0, 0), -2);
        check.due("about(0, 0)", x.about(0, 0), -2);
        check.due("same(0, 0)", x.same(0, 0), -2);
        check.due("digest()", x.digest(), 67);
    }

    private static void emptyTape() {
        StepShake x = new StepShake();
        check.due("count(2)", x.count(2), 0);
        check.due("byteOf(2, 0)", x.byteOf(2, 0), -1);
        check.due("the first byte", x.feed(1, 1), 1);
    }

    private static void noLetter() {
        StepShake x = new StepShake();
        check.due("count(3)", x.count(3), 0);
        check.due("byteOf(0, 0)", x.byteOf(0, 0), -1);
        check.due("alter(0, 0)", x.alter(0, 0), -2);
        check.due("cut(1)", x.cut(1), -2);
        check.due("cut(0)", x.cut(0), 0);
    }

    private static void nothingGot() {
        StepShake x = new StepShake();
        check.due("count(4)", x.count(4), 0);
        check.due("byteOf(1, 0)", x.byteOf(1, 0), -1);
    }

    private static void objectsAreApart() {
        StepShake x = Calls.pair(true, true, "eFS eEG");
        StepShake y = new StepShake();
        x.feed(1, 8);
        x.write(0);
        x.read(1);
        x.feed(1, 8);
        for (int what = 0; what <= 4; what++) {
            check.due("count(" + what + ") of another object", y.count(what), 0);
        }
        check.due("digest of another object", y.digest(), 67);
    }
}
