/** Makes each call on a StepShake and on the model, and looks whether they answer alike. */
final class Both {
    final StepShake x = new StepShake();
    private final Model model = new Model();
    private final Check check;
    private final String run;
    int calls = 0;

    Both(Check check, String run) {
        this.check = check;
        this.run = run;
    }

    private int alike(String call, int got, int want) {
        calls++;
        check.due(run + ", call " + calls + ": " + call, got, want);
        return want;
    }

    private static String told(String name, int... numbers) {
        StringBuilder text = new StringBuilder(name).append('(');
        for (int i = 0; i < numbers.length; i++) {
            text.append(i == 0 ? "" : ", ").append(numbers[i]);
        }
        return text.append(')').toString();
    }

    int pattern(boolean known, boolean other) {
        return alike("pattern(" + known + ", " + other + ")", x.pattern(known, other), model.pattern(known, other));
    }

    int message(int pattern) {
        return alike(told("message", pattern), x.message(pattern), model.message(pattern));
    }

    int token(int pattern, int t) {
        return alike(told("token", pattern, t), x.token(pattern, t), model.token(pattern, t));
    }

    int fault(int pattern) {
        return alike(told("fault", pattern), x.fault(pattern), model.fault(pattern));
    }

    int told(int pattern, int what) {
        return alike(told("told", pattern, what), x.told(pattern, what), model.told(pattern, what));
    }

    int side(int pattern, int hand, int s, int other, int e) {
        return alike(told("side", pattern, hand, s, other, e), x.side(pattern, hand, s, other, e),
                model.side(pattern, hand, s, other, e));
    }

    int again(int side) {
        return alike(told("again", side), x.again(side), model.again(side));
    }

    int feed(long w, int n) {
        return alike("feed(" + w + ", " + n + ")", x.feed(w, n), model.feed(w, n));
    }

    int write(int side) {
        return alike(told("write", side), x.write(side), model.write(side));
    }

    int read(int side) {
        return alike(told("read", side), x.read(side), model.read(side));
    }

    int alter(int i, int by) {
        return alike(told("alter", i, by), x.alter(i, by), model.alter(i, by));
    }

    int cut(int n) {
        return alike(told("cut", n), x.cut(n), model.cut(n));
    }

    int byteOf(int what, int i) {
        return alike(told("byteOf", what, i), x.byteOf(what, i), model.byteOf(what, i));
    }

    int hash(int side, int i) {
        return alike(told("hash", side, i), x.hash(side, i), model.hash(side, i));
    }

    int about(int side, int what) {
        return alike(told("about", side, what), x.about(side, what), model.about(side, what));
    }

    int same(int side, int other) {
        return alike(told("same", side, other), x.same(side, other), model.same(side, other));
    }

    int key(int v, int j, int i) {
        return alike(told("key", v, j, i), x.key(v, j, i), model.key(v, j, i));
    }

    int count(int what) {
        return alike(told("count", what), x.count(what), model.count(what));
    }

    void digest() {
        calls++;
        check.due(run + ", call " + calls + ": digest()", x.digest(), model.digest());
    }

    /** A PATTERN by a text of letters: messages with a blank between them, tokens e s E(ee) F(es) G(se) S(ss). */
    int tell(boolean known, boolean other, String messages) {
        int number = pattern(known, other);
        for (String tokens : messages.split(" ")) {
            message(number);
            for (char c : tokens.toCharArray()) {
                token(number, "esEFGS".indexOf(c));
            }
        }
        return number;
    }

    /** All that can be asked about, as calls that change nothing. */
    void askAll() {
        for (int what = -1; what <= 5; what++) {
            count(what);
        }
        for (int pattern = -1; pattern <= 8; pattern++) {
            fault(pattern);
            for (int what = -1; what <= 39; what++) {
                told(pattern, what);
            }
        }
        for (int side = -1; side <= 4; side++) {
            for (int what = -1; what <= 9; what++) {
                about(side, what);
            }
            for (int i = -1; i <= 32; i++) {
                hash(side, i);
            }
            for (int other = -1; other <= 4; other++) {
                same(side, other);
            }
        }
        for (int what = -1; what <= 3; what++) {
            for (int i = -1; i <= 161; i++) {
                byteOf(what, i);
            }
        }
        digest();
    }
}
