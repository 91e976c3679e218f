/** Makes each call on a StepShake and on the model, and looks whether they answer alike. */
final class Both {
    /** What an object answers behind as many calls is free. */
    static final int MOST_CALLS = 512;

    private final StepShake x = new StepShake();
    private final Model model = new Model();
    private final Check check;
    private final String run;
    private int calls = 0;

    Both(Check check, String run) {
        this.check = check;
        this.run = run;
    }

    int callsLeft() {
        return MOST_CALLS - calls;
    }

    private int alike(String call, int got, int want) {
        calls++;
        check.due(run + ", call " + calls + ": " + call, got, want);
        return want;
    }

    private static String told(String name, int... numbers) {
        StringBuilder text = new StringBuilder(name).append('(');
        for (int i = 0; i < numbers.length; i++) {
            text.append(i == 0 ? "" : ", ").append(numbers[i]);
        }
        return text.append(')').toString();
    }

    int pattern(boolean known, boolean other) {
        return alike("pattern(" + known + ", " + other + ")", x.pattern(known, other), model.pattern(known, other));
    }

    int message(int pattern) {
        return alike(told("message", pattern), x.message(pattern), model.message(pattern));
    }

    int token(int pattern, int t) {
        return alike(told("token", pattern, t), x.token(pattern, t), model.token(pattern, t));
    }

    int fault(int pattern) {
        return alike(told("fault", pattern), x.fault(pattern), model.fault(pattern));
    }

    int told(int pattern, int what) {
        return alike(told("told", pattern, what), x.told(pattern, what), model.told(pattern, what));
    }

    int side(int pattern, int hand, int s, int other, int e) {
        return alike(told("side", pattern, hand, s, other, e), x.side(pattern, hand, s, other, e),
                model.side(pattern, hand, s, other, e));
    }

    int again(int side) {
        return alike(told("again", side), x.again(side), model.again(side));
    }

    int feed(long w, int n) {
        return alike("feed(" + w + ", " + n + ")", x.feed(w, n), model.feed(w, n));
    }

    int write(int side) {
        return alike(told("write", side), x.write(side), model.write(side));
    }

    int read(int side) {
        return alike(told("read", side), x.read(side), model.read(side));
    }

    int alter(int i, int by) {
        return alike(told("alter", i, by), x.alter(i, by), model.alter(i, by));
    }

    int cut(int n) {
        return alike(told("cut", n), x.cut(n), model.cut(n));
    }

    int byteOf(int what, int i) {
        return alike(told("byteOf", what, i), x.byteOf(what, i), model.byteOf(what, i));
    }

    int hash(int side, int i) {
        return alike(told("hash", side, i), x.hash(side, i), model.hash(side, i));
    }

    int about(int side, int what) {
        return alike(told("about", side, what), x.about(side, what), model.about(side, what));
    }

    int same(int side, int other) {
        return alike(told("same", side, other), x.same(side, other), model.same(side, other));
    }

    int key(int v, int j, int i) {
        return alike(told("key", v, j, i), x.key(v, j, i), model.key(v, j, i));
    }

    int count(int what) {
        return alike(told("count", what), x.count(what), model.count(what));
    }

    void digest() {
        calls++;
        check.due(run + ", call " + calls + ": digest()", x.digest(), model.digest());
    }

    /** A PATTERN by a text of letters: messages with a blank between them, tokens e s E(ee) F(es) G(se) S(ss). */
    int tell(boolean known, boolean other, String messages) {
        int number = pattern(known, other);
        for (String tokens : messages.split(" ", -1)) {
            message(number);
            for (char c : tokens.toCharArray()) {
                token(number, "esEFGS".indexOf(c));
            }
        }
        return number;
    }

    /** Counts, what is told about SIDES, and the digest of their h, THE LETTER and what was GOT: some 70 calls. */
    void ask() {
        for (int what = -1; what <= 5; what++) {
            count(what);
        }
        for (int side = -1; side <= 4; side++) {
            for (int what = 0; what <= 8; what++) {
                about(side, what);
            }
        }
        for (int side = 0; side < 4; side++) {
            same(side, side ^ 1);
        }
        digest();
    }
}
