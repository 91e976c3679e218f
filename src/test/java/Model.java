import java.util.ArrayList;
import java.util.Arrays;
import java.util.HashMap;
import java.util.HashSet;
import java.util.List;
import java.util.Map;
import java.util.Set;

/** The document once more, told the plain way with the Java library: what random runs are measured by. */
final class Model {
    private static final int NONE = -1, BAD = -2, NO = -3, FULL = -4, SHORT = -5, FALSE = -6;
    private static final String[] TOKENS = {"e", "s", "ee", "es", "se", "ss"};
    private static final Map<Long, byte[]> PUBLICS = new HashMap<>();

    private static final class Pattern {
        final boolean[] known;
        final List<List<String>> messages = new ArrayList<>();
        boolean closed = false;

        Pattern(boolean known, boolean other) {
            this.known = new boolean[] {known, other};
        }
    }

    /** Rows are never changed in place, so a copy of the references is a copy of the side. */
    private static final class Side implements Cloneable {
        int patternNumber, hand, did, used, seed;
        Pattern pattern;
        byte[] secretS, publicS, toldS;
        byte[] ck, h, k, secretE, otherE, otherS;
        int n, sent, taken;
        byte[] one, two;

        Side copy() {
            try {
                return (Side) clone();
            } catch (CloneNotSupportedException e) {
                throw new IllegalStateException(e);
            }
        }

        boolean done() {
            return did == pattern.messages.size();
        }

        void mixHash(byte[] x) {
            h = Published.hash(h, x);
        }

        byte[] seal(byte[] x) {
            byte[] came = k == null ? x : Published.seal(k, n++, h, x);
            mixHash(came);
            return came;
        }

        byte[] open(byte[] y) throws Refused {
            byte[] x = y;
            if (k != null) {
                x = Published.open(k, n++, h, y);
                if (x == null) {
                    throw new Refused(FALSE);
                }
            }
            mixHash(y);
            return x;
        }

        void mixDh(String token) {
            char own = token.charAt(hand), other = token.charAt(1 - hand);
            byte[] shared = Published.dh(own == 'e' ? secretE : secretS, other == 'e' ? otherE : otherS);
            byte[][] made = Published.keys(ck, shared);
            ck = made[0];
            k = made[1];
            n = 0;
        }

        void ended() {
            did++;
            if (done()) {
                byte[][] made = Published.keys(ck, new byte[0]);
                one = made[0];
                two = made[1];
                sent = 0;
                taken = 0;
            }
        }
    }

    private static final class Refused extends Exception {
        private static final long serialVersionUID = 1;
        final int why;

        Refused(int why) {
            this.why = why;
        }
    }

    private final List<Pattern> patterns = new ArrayList<>();
    private final List<Side> sides = new ArrayList<>();
    private byte[] tape = {}, letter = {}, got = {};

    private static byte[] publicOf(int v, int j) {
        return PUBLICS.computeIfAbsent((long) v << 32 | j & 0xffffffffL,
                x -> Published.publicOf(Published.secret(v, j)));
    }

    private static boolean in(int i, List<?> list) {
        return i >= 0 && i < list.size();
    }

    int pattern(boolean known, boolean other) {
        if (patterns.size() == 8) {
            return FULL;
        }
        patterns.add(new Pattern(known, other));
        return patterns.size() - 1;
    }

    int message(int pattern) {
        if (!in(pattern, patterns)) {
            return BAD;
        }
        Pattern p = patterns.get(pattern);
        if (p.closed) {
            return NO;
        }
        if (p.messages.size() == 6) {
            return FULL;
        }
        p.messages.add(new ArrayList<>());
        return p.messages.size();
    }

    int token(int pattern, int t) {
        if (!in(pattern, patterns) || t < 0 || t > 5) {
            return BAD;
        }
        Pattern p = patterns.get(pattern);
        if (p.closed || p.messages.isEmpty()) {
            return NO;
        }
        List<String> last = p.messages.get(p.messages.size() - 1);
        if (last.size() == 5) {
            return FULL;
        }
        last.add(TOKENS[t]);
        return last.size();
    }

    int fault(int pattern) {
        return in(pattern, patterns) ? faultOf(patterns.get(pattern)) : BAD;
    }

    private static int faultOf(Pattern p) {
        for (int f = 1; f <= 5; f++) {
            if (hasFault(p, f)) {
                return f;
            }
        }
        return 0;
    }

    private static boolean hasFault(Pattern p, int f) {
        if (f == 1) {
            return p.messages.isEmpty() || p.messages.stream().anyMatch(List::isEmpty);
        }
        Set<String> have = new HashSet<>();
        for (int hand = 0; hand < 2; hand++) {
            if (p.known[hand]) {
                have.add("s" + hand);
            }
        }
        Set<String> dhs = new HashSet<>();
        for (int m = 0; m < p.messages.size(); m++) {
            int hand = m % 2;
            for (String token : p.messages.get(m)) {
                if (token.length() == 1) {
                    if (f == 5 && token.equals("s") && early(hand, dhs)) {
                        return true;
                    }
                    if (!have.add(token + hand) && f == 2) {
                        return true;
                    }
                } else {
                    if (f == 3 && !(have.contains(token.charAt(0) + "0") && have.contains(token.charAt(1) + "1"))) {
                        return true;
                    }
                    if (!dhs.add(token) && f == 4) {
                        return true;
                    }
                }
            }
            if (f == 5 && early(hand, dhs)) {
                return true;
            }
        }
        return false;
    }

    private static boolean early(int hand, Set<String> dhs) {
        if (hand == 0) {
            return dhs.contains("se") && !dhs.contains("ee") || dhs.contains("ss") && !dhs.contains("es");
        }
        return dhs.contains("es") && !dhs.contains("ee") || dhs.contains("ss") && !dhs.contains("se");
    }

    int told(int pattern, int what) {
        if (!in(pattern, patterns) || what < 0 || what > 38) {
            return BAD;
        }
        Pattern p = patterns.get(pattern);
        if (what == 0) {
            return p.messages.size();
        }
        if (what < 3) {
            return p.known[what - 1] ? 1 : 0;
        }
        int m = (what - 3) / 6, k = (what - 3) % 6;
        if (!in(m, p.messages)) {
            return NONE;
        }
        List<String> tokens = p.messages.get(m);
        if (k == 5) {
            return tokens.size();
        }
        return in(k, tokens) ? Arrays.asList(TOKENS).indexOf(tokens.get(k)) : NONE;
    }

    int side(int pattern, int hand, int s, int other, int e) {
        if (!in(pattern, patterns) || hand < 0 || hand > 1 || s < NONE || other < NONE) {
            return BAD;
        }
        Pattern p = patterns.get(pattern);
        boolean needs = p.known[hand];
        for (int m = hand; m < p.messages.size(); m += 2) {
            needs |= p.messages.get(m).contains("s");
        }
        if (faultOf(p) != 0 || needs && s == NONE || p.known[1 - hand] && other == NONE) {
            return NO;
        }
        if (sides.size() == 4) {
            return FULL;
        }
        Side side = new Side();
        side.patternNumber = pattern;
        side.pattern = p;
        side.hand = hand;
        side.seed = e;
        side.secretS = s == NONE ? null : Published.secret(s, 0);
        side.publicS = s == NONE ? null : publicOf(s, 0);
        side.toldS = other == NONE ? null : publicOf(other, 0);
        begin(side);
        p.closed = true;
        sides.add(side);
        return sides.size() - 1;
    }

    private static void begin(Side side) {
        side.h = Arrays.copyOf("Handshake by steps".getBytes(), 32);
        side.ck = side.h;
        side.k = null;
        side.n = 0;
        side.did = 0;
        side.otherE = null;
        side.otherS = side.toldS;
        for (int hand = 0; hand < 2; hand++) {
            if (side.pattern.known[hand]) {
                side.mixHash(side.hand == hand ? side.publicS : side.toldS);
            }
        }
    }

    int again(int side) {
        if (!in(side, sides)) {
            return BAD;
        }
        int did = sides.get(side).did;
        begin(sides.get(side));
        return did;
    }

    int feed(long w, int n) {
        if (n < 1 || n > 8) {
            return BAD;
        }
        if (tape.length + n > 64) {
            return FULL;
        }
        byte[] all = java.nio.ByteBuffer.allocate(8).putLong(w).array();
        tape = Published.join(tape, Published.part(all, 8 - n, 8));
        return tape.length;
    }

    int write(int side) {
        if (!in(side, sides)) {
            return BAD;
        }
        Side it = sides.get(side);
        if (it.done()) {
            letter = Published.seal(it.hand == 0 ? it.one : it.two, it.sent++, new byte[0], tape);
        } else if (it.did % 2 != it.hand) {
            return NO;
        } else {
            byte[] sent = {};
            for (String token : it.pattern.messages.get(it.did)) {
                if (token.equals("e")) {
                    it.used++;
                    it.secretE = Published.secret(it.seed, it.used);
                    byte[] e = publicOf(it.seed, it.used);
                    it.mixHash(e);
                    sent = Published.join(sent, e);
                } else if (token.equals("s")) {
                    sent = Published.join(sent, it.seal(it.publicS));
                } else {
                    it.mixDh(token);
                }
            }
            letter = Published.join(sent, it.seal(tape));
            it.ended();
        }
        tape = new byte[0];
        return letter.length;
    }

    int read(int side) {
        if (!in(side, sides)) {
            return BAD;
        }
        Side it = sides.get(side).copy();
        if (!it.done() && it.did % 2 == it.hand) {
            return NO;
        }
        try {
            got = it.done() ? takeDone(it) : take(it);
        } catch (Refused refused) {
            return refused.why;
        }
        sides.set(side, it);
        return got.length;
    }

    private byte[] takeDone(Side it) throws Refused {
        if (letter.length < 16) {
            throw new Refused(SHORT);
        }
        byte[] x = Published.open(it.hand == 0 ? it.two : it.one, it.taken++, new byte[0], letter);
        if (x == null) {
            throw new Refused(FALSE);
        }
        return x;
    }

    private byte[] take(Side it) throws Refused {
        List<String> tokens = it.pattern.messages.get(it.did);
        int firstDh = tokens.size();
        for (int i = tokens.size() - 1; i >= 0; i--) {
            firstDh = tokens.get(i).length() == 2 ? i : firstDh;
        }
        int least = 0;
        for (int i = 0; i < tokens.size(); i++) {
            least += tokens.get(i).equals("e") ? 32 : 0;
            least += tokens.get(i).equals("s") ? it.k != null || firstDh < i ? 48 : 32 : 0;
        }
        least += it.k != null || firstDh < tokens.size() ? 16 : 0;
        if (letter.length < least) {
            throw new Refused(SHORT);
        }
        int at = 0;
        for (String token : tokens) {
            if (token.equals("e")) {
                it.otherE = Published.part(letter, at, at + 32);
                it.mixHash(it.otherE);
                at += 32;
            } else if (token.equals("s")) {
                int size = it.k == null ? 32 : 48;
                it.otherS = it.open(Published.part(letter, at, at + size));
                at += size;
            } else {
                it.mixDh(token);
            }
        }
        byte[] payload = it.open(Published.part(letter, at, letter.length));
        it.ended();
        return payload;
    }

    int alter(int i, int x) {
        if (i < 0 || i >= letter.length || x < 0 || x > 255) {
            return BAD;
        }
        int was = letter[i] & 255;
        letter = letter.clone();
        letter[i] ^= (byte) x;
        return was;
    }

    int cut(int n) {
        if (n < 0 || n > letter.length) {
            return BAD;
        }
        int went = letter.length - n;
        letter = Published.part(letter, 0, n);
        return went;
    }

    int byteOf(int what, int i) {
        if (what < 0 || what > 2) {
            return BAD;
        }
        byte[] row = what == 0 ? letter : what == 1 ? got : tape;
        return i >= 0 && i < row.length ? row[i] & 255 : NONE;
    }

    int hash(int side, int i) {
        return in(side, sides) && i >= 0 && i < 32 ? sides.get(side).h[i] & 255 : BAD;
    }

    int about(int side, int what) {
        if (!in(side, sides) || what < 0 || what > 8) {
            return BAD;
        }
        Side it = sides.get(side);
        boolean done = it.done();
        int[] all = {it.patternNumber, it.hand, it.did, done ? 1 : 0, done || it.k != null ? 1 : 0,
            done ? it.sent : it.n, it.otherE != null ? 1 : 0, it.otherS != null ? 1 : 0, it.used};
        return all[what];
    }

    int same(int side, int other) {
        if (!in(side, sides) || !in(other, sides)) {
            return BAD;
        }
        Side a = sides.get(side), b = sides.get(other);
        if (!a.done() || !b.done()) {
            return NO;
        }
        return a.hand + b.hand == 1 && Arrays.equals(a.h, b.h) && Arrays.equals(a.one, b.one)
                && Arrays.equals(a.two, b.two) ? 1 : 0;
    }

    int key(int v, int j, int i) {
        return i < 0 || i > 31 ? BAD : publicOf(v, j)[i] & 255;
    }

    int count(int what) {
        int[] all = {patterns.size(), sides.size(), tape.length, letter.length, got.length};
        return what < 0 || what > 4 ? BAD : all[what];
    }

    long digest() {
        long h = 67;
        for (int side = 0; side < sides.size(); side++) {
            for (int what = 2; what <= 8; what++) {
                h = 31 * h + about(side, what);
            }
            for (byte b : sides.get(side).h) {
                h = 31 * h + (b & 255);
            }
        }
        for (byte b : Published.join(letter, got)) {
            h = 31 * h + (b & 255);
        }
        return h;
    }
}
