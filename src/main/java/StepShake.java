/** Handshakes by patterns in the manner of Noise; the document numbers what each call promises. */
public final class StepShake {
    public static final int NONE = -1, BAD = -2, NO = -3, FULL = -4, SHORT = -5, FALSE = -6;

    private static final int MOST_PATTERNS = 8, MOST_SIDES = 4, MOST_TAPE = 64;
    private static final int E = 0, S = 1, EE = 2, ES = 3, SE = 4, SS = 5;
    private static final int KEY_SIZE = 32, TAG_SIZE = 16;
    // No MESSAGE sends more than e, a sealed s and a sealed TAPE, since a HAND sends e and s once.
    private static final int MOST_LETTER = KEY_SIZE + KEY_SIZE + TAG_SIZE + MOST_TAPE + TAG_SIZE;
    private static final int[] NOTHING = {};

    private final Pattern[] patterns = new Pattern[MOST_PATTERNS];
    private final Side[] sides = new Side[MOST_SIDES];
    private final Row tape = new Row(MOST_TAPE);
    private final Row letter = new Row(MOST_LETTER);
    private final Row got = new Row(MOST_LETTER);
    private final Talk talk = new Talk();
    private final int[] shown = new int[KEY_SIZE];
    private int patternCount = 0;
    private int sideCount = 0;

    public StepShake() {
    }

    public int pattern(boolean known, boolean other) {
        if (patternCount >= MOST_PATTERNS) {
            return FULL;
        }
        patterns[patternCount] = new Pattern(known, other);
        patternCount++;
        return patternCount - 1;
    }

    public int message(int pattern) {
        Pattern p = patternAt(pattern);
        if (p == null) {
            return BAD;
        }
        return p.hasSide ? NO : p.addMessage();
    }

    public int token(int pattern, int t) {
        Pattern p = patternAt(pattern);
        if (p == null || t < E || t > SS) {
            return BAD;
        }
        return p.hasSide ? NO : p.addToken(t);
    }

    public int fault(int pattern) {
        Pattern p = patternAt(pattern);
        return p == null ? BAD : p.findFault();
    }

    public int told(int pattern, int what) {
        Pattern p = patternAt(pattern);
        if (p == null || what < 0 || what > 2 + Pattern.MOST_MESSAGES * (Pattern.MOST_TOKENS + 1)) {
            return BAD;
        }
        return p.tell(what);
    }

    public int side(int pattern, int hand, int s, int other, int e) {
        Pattern p = patternAt(pattern);
        if (p == null || hand < 0 || hand > 1 || s < NONE || other < NONE) {
            return BAD;
        }
        if (p.findFault() != 0) {
            return NO;
        }
        if (s == NONE && (p.isKnownAhead(hand) || p.sendsS(hand))) {
            return NO;
        }
        if (other == NONE && p.isKnownAhead(1 - hand)) {
            return NO;
        }
        if (sideCount >= MOST_SIDES) {
            return FULL;
        }
        Side made = new Side(p, pattern, hand, e);
        talk.giveKeys(made, s, other);
        talk.begin(made);
        p.hasSide = true;
        sides[sideCount] = made;
        sideCount++;
        return sideCount - 1;
    }

    public int again(int side) {
        Side it = sideAt(side);
        if (it == null) {
            return BAD;
        }
        int did = it.state.messages;
        talk.begin(it);
        return did;
    }

    public int feed(long w, int n) {
        if (n < 1 || n > 8) {
            return BAD;
        }
        if (tape.size + n > MOST_TAPE) {
            return FULL;
        }
        for (int i = n - 1; i >= 0; i--) {
            tape.put((int) (w >>> 8 * i) & 255);
        }
        return tape.size;
    }

    public int write(int side) {
        Side it = sideAt(side);
        if (it == null) {
            return BAD;
        }
        if (it.isDone()) {
            talk.sendDone(it.state, tape, letter);
        } else if (it.isNext()) {
            talk.send(it, tape, letter);
        } else {
            return NO;
        }
        tape.size = 0;
        return letter.size;
    }

    public int read(int side) {
        Side it = sideAt(side);
        if (it == null) {
            return BAD;
        }
        if (!it.isDone() && it.isNext()) {
            return NO;
        }
        if (letter.size < it.leastLetter()) {
            return SHORT;
        }
        boolean right = it.isDone() ? talk.takeDone(it.state, letter, got) : talk.take(it, letter, got);
        return right ? got.size : FALSE;
    }

    public int alter(int i, int x) {
        if (i < 0 || i >= letter.size || x < 0 || x > 255) {
            return BAD;
        }
        int was = letter.bytes[i];
        letter.bytes[i] = was ^ x;
        return was;
    }

    public int cut(int n) {
        if (n < 0 || n > letter.size) {
            return BAD;
        }
        int went = letter.size - n;
        letter.size = n;
        return went;
    }

    public int byteOf(int what, int i) {
        switch (what) {
            case 0:
                return letter.at(i);
            case 1:
                return got.at(i);
            case 2:
                return tape.at(i);
            default:
                return BAD;
        }
    }

    public int hash(int side, int i) {
        Side it = sideAt(side);
        if (it == null || i < 0 || i >= KEY_SIZE) {
            return BAD;
        }
        return it.state.h[i];
    }

    public int about(int side, int what) {
        Side it = sideAt(side);
        return it == null ? BAD : it.tell(what);
    }

    public int same(int side, int other) {
        Side one = sideAt(side);
        Side two = sideAt(other);
        if (one == null || two == null) {
            return BAD;
        }
        if (!one.isDone() || !two.isDone()) {
            return NO;
        }
        return one.hand != two.hand && one.state.fits(two.state) ? 1 : 0;
    }

    public int key(int v, int j, int i) {
        if (i < 0 || i >= KEY_SIZE) {
            return BAD;
        }
        talk.publicOf(v, j, shown);
        return shown[i];
    }

    public int count(int what) {
        switch (what) {
            case 0:
                return patternCount;
            case 1:
                return sideCount;
            case 2:
                return tape.size;
            case 3:
                return letter.size;
            case 4:
                return got.size;
            default:
                return BAD;
        }
    }

    public long digest() {
        long sum = 67;
        for (int n = 0; n < sideCount; n++) {
            for (int what = 2; what <= 8; what++) {
                sum = 31 * sum + about(n, what);
            }
            for (int i = 0; i < KEY_SIZE; i++) {
                sum = 31 * sum + hash(n, i);
            }
        }
        return got.addTo(letter.addTo(sum));
    }

    private Pattern patternAt(int number) {
        return number >= 0 && number < patternCount ? patterns[number] : null;
    }

    private Side sideAt(int number) {
        return number >= 0 && number < sideCount ? sides[number] : null;
    }

    /** Bits of a number whose lowest byte is first; they must lie within four bytes. */
    private static long bitsOf(int[] from, int start, int width) {
        int at = start >> 3;
        long four = from[at] | from[at + 1] << 8 | from[at + 2] << 16 | (long) from[at + 3] << 24;
        return four >> (start & 7) & (1L << width) - 1;
    }

    private static void copyKey(int[] from, int[] to) {
        System.arraycopy(from, 0, to, 0, KEY_SIZE);
    }

    /** A row of bytes, 0 to 255 each, that never grows past the room it was made with. */
    private static final class Row {
        final int[] bytes;
        int size = 0;

        Row(int most) {
            bytes = new int[most];
        }

        void put(int b) {
            if (size < bytes.length) {
                bytes[size] = b;
                size++;
            }
        }

        void putAll(int[] from, int start, int end) {
            for (int i = start; i < end; i++) {
                put(from[i]);
            }
        }

        int at(int i) {
            return i >= 0 && i < size ? bytes[i] : NONE;
        }

        long addTo(long sum) {
            for (int i = 0; i < size; i++) {
                sum = 31 * sum + bytes[i];
            }
            return sum;
        }
    }

    /** What is told of a PATTERN, and the judgement of it. */
    private static final class Pattern {
        static final int MOST_MESSAGES = 6, MOST_TOKENS = 5;
        private static final int NO_FAULT = 6;
        // Keys as bits: e of HAND 0, e of HAND 1, s of HAND 0, s of HAND 1. By TOKEN, what a DH needs.
        private static final int[] NEEDS = {0, 0, 1 | 2, 1 | 8, 4 | 2, 4 | 8};

        private final boolean knownFirst;
        private final boolean knownSecond;
        private final int[][] tokens = new int[MOST_MESSAGES][MOST_TOKENS];
        private final int[] sizes = new int[MOST_MESSAGES];
        int messages = 0;
        boolean hasSide = false;

        Pattern(boolean known, boolean other) {
            knownFirst = known;
            knownSecond = other;
        }

        int addMessage() {
            if (messages >= MOST_MESSAGES) {
                return FULL;
            }
            messages++;
            return messages;
        }

        int addToken(int t) {
            if (messages == 0) {
                return NO;
            }
            int last = messages - 1;
            if (sizes[last] >= MOST_TOKENS) {
                return FULL;
            }
            tokens[last][sizes[last]] = t;
            sizes[last]++;
            return sizes[last];
        }

        int sizeOf(int m) {
            return m >= 0 && m < messages ? sizes[m] : NONE;
        }

        int tokenAt(int m, int k) {
            return k >= 0 && k < sizeOf(m) ? tokens[m][k] : NONE;
        }

        boolean isKnownAhead(int hand) {
            return hand == 0 ? knownFirst : knownSecond;
        }

        boolean sendsS(int hand) {
            for (int m = hand; m < messages; m += 2) {
                for (int k = 0; k < sizes[m]; k++) {
                    if (tokens[m][k] == S) {
                        return true;
                    }
                }
            }
            return false;
        }

        int tell(int what) {
            switch (what) {
                case 0:
                    return messages;
                case 1:
                    return knownFirst ? 1 : 0;
                case 2:
                    return knownSecond ? 1 : 0;
                default:
                    int m = (what - 3) / (MOST_TOKENS + 1);
                    int k = (what - 3) % (MOST_TOKENS + 1);
                    return k == MOST_TOKENS ? sizeOf(m) : tokenAt(m, k);
            }
        }

        int findFault() {
            if (hasEmptyMessage()) {
                return 1;
            }
            int lowest = NO_FAULT;
            int keys = (knownFirst ? 4 : 0) | (knownSecond ? 8 : 0);
            int done = 0;
            for (int m = 0; m < messages; m++) {
                int hand = m & 1;
                for (int k = 0; k < sizes[m]; k++) {
                    int t = tokens[m][k];
                    lowest = Math.min(lowest, faultAt(t, hand, keys, done));
                    if (t == E || t == S) {
                        keys |= keyBit(t, hand);
                    } else {
                        done |= 1 << t;
                    }
                }
                // At an s that it sends no DH of that s is done without a lower fault, so only the ends need a look.
                if (sealsTooSoon(hand, done)) {
                    lowest = Math.min(lowest, 5);
                }
            }
            return lowest == NO_FAULT ? 0 : lowest;
        }

        private boolean hasEmptyMessage() {
            for (int m = 0; m < messages; m++) {
                if (sizes[m] == 0) {
                    return true;
                }
            }
            return messages == 0;
        }

        private static int faultAt(int t, int hand, int keys, int done) {
            if (t == E || t == S) {
                // An s known ahead is among the keys from the beginning, so to send it is to send it twice.
                return (keys & keyBit(t, hand)) != 0 ? 2 : NO_FAULT;
            }
            if ((keys & NEEDS[t]) != NEEDS[t]) {
                return 3;
            }
            return did(done, t) ? 4 : NO_FAULT;
        }

        private static int keyBit(int t, int hand) {
            return 1 << 2 * t + hand;
        }

        private static boolean did(int done, int t) {
            return (done >> t & 1) == 1;
        }

        private static boolean sealsTooSoon(int hand, int done) {
            int ofOwnS = hand == 0 ? SE : ES;
            int ofOtherS = hand == 0 ? ES : SE;
            return did(done, ofOwnS) && !did(done, EE) || did(done, SS) && !did(done, ofOtherS);
        }
    }

    /** What of a SIDE changes as it goes; DONE, k and n are of what it sends. */
    private static final class State {
        final int[] ck = new int[KEY_SIZE];
        final int[] h = new int[KEY_SIZE];
        final int[] k = new int[KEY_SIZE];
        final int[] takeKey = new int[KEY_SIZE];
        final int[] ownE = new int[KEY_SIZE];
        final int[] otherE = new int[KEY_SIZE];
        final int[] otherS = new int[KEY_SIZE];
        boolean hasKey = false;
        boolean knowsE = false;
        boolean knowsS = false;
        int n = 0;
        int takeCount = 0;
        int used = 0;
        int messages = 0;

        void copyFrom(State from) {
            copyKey(from.ck, ck);
            copyKey(from.h, h);
            copyKey(from.k, k);
            copyKey(from.takeKey, takeKey);
            copyKey(from.ownE, ownE);
            copyKey(from.otherE, otherE);
            copyKey(from.otherS, otherS);
            hasKey = from.hasKey;
            knowsE = from.knowsE;
            knowsS = from.knowsS;
            n = from.n;
            takeCount = from.takeCount;
            used = from.used;
            messages = from.messages;
        }

        /** Whether the SIDE of the other HAND ended with the same h, and takes what this one sends. */
        boolean fits(State other) {
            return alike(h, other.h) && alike(k, other.takeKey) && alike(takeKey, other.k);
        }

        private static boolean alike(int[] a, int[] b) {
            for (int i = 0; i < KEY_SIZE; i++) {
                if (a[i] != b[i]) {
                    return false;
                }
            }
            return true;
        }
    }

    /** A HAND of a PATTERN with the keys that it was given. */
    private static final class Side {
        final Pattern pattern;
        final int patternNumber;
        final int hand;
        final int seedE;
        final int[] secretS = new int[KEY_SIZE];
        final int[] publicS = new int[KEY_SIZE];
        final int[] toldS = new int[KEY_SIZE];
        boolean wasTold = false;
        final State state = new State();

        Side(Pattern pattern, int patternNumber, int hand, int seedE) {
            this.pattern = pattern;
            this.patternNumber = patternNumber;
            this.hand = hand;
            this.seedE = seedE;
        }

        boolean isDone() {
            return state.messages >= pattern.messages;
        }

        boolean isNext() {
            return (state.messages & 1) == hand;
        }

        /** How many bytes the next LETTER has at least; it hangs on no byte, so SHORT goes ahead of FALSE. */
        int leastLetter() {
            boolean keyed = state.hasKey;
            int least = 0;
            int tokens = pattern.sizeOf(state.messages);
            for (int i = 0; i < tokens; i++) {
                int t = pattern.tokenAt(state.messages, i);
                if (t == E) {
                    least += KEY_SIZE;
                } else if (t == S) {
                    least += keyed ? KEY_SIZE + TAG_SIZE : KEY_SIZE;
                } else {
                    keyed = true;
                }
            }
            return keyed ? least + TAG_SIZE : least;
        }

        int tell(int what) {
            switch (what) {
                case 0:
                    return patternNumber;
                case 1:
                    return hand;
                case 2:
                    return state.messages;
                case 3:
                    return isDone() ? 1 : 0;
                case 4:
                    return state.hasKey ? 1 : 0;
                case 5:
                    return state.n;
                case 6:
                    return state.knowsE ? 1 : 0;
                case 7:
                    return state.knowsS ? 1 : 0;
                case 8:
                    return state.used;
                default:
                    return BAD;
            }
        }
    }

    /** Does the MESSAGES of SIDES, with the tools and the rows that all of them share. */
    private static final class Talk {
        private static final String NAME = "Handshake by steps";

        private final Sha sha = new Sha();
        private final Mac mac = new Mac();
        private final Curve curve = new Curve();
        private final Cipher cipher = new Cipher();
        private final State trial = new State();
        private final int[] secret = new int[KEY_SIZE];
        private final int[] point = new int[KEY_SIZE];
        private final Row opened = new Row(KEY_SIZE);

        void secretOf(int v, int j, int[] out) {
            sha.begin();
            sha.addNumber(v);
            sha.addNumber(j);
            sha.finish(out);
        }

        void publicOf(int v, int j, int[] out) {
            secretOf(v, j, secret);
            curve.multiplyPoint(secret, Curve.BASE, out);
        }

        void giveKeys(Side side, int s, int other) {
            if (s != NONE) {
                secretOf(s, 0, side.secretS);
                curve.multiplyPoint(side.secretS, Curve.BASE, side.publicS);
            }
            if (other != NONE) {
                publicOf(other, 0, side.toldS);
                side.wasTold = true;
            }
        }

        void begin(Side side) {
            State state = side.state;
            for (int i = 0; i < KEY_SIZE; i++) {
                state.h[i] = i < NAME.length() ? NAME.charAt(i) : 0;
            }
            copyKey(state.h, state.ck);
            // What was read of the other one is forgotten; what was told at the beginning stays.
            copyKey(side.toldS, state.otherS);
            state.knowsS = side.wasTold;
            state.knowsE = false;
            state.hasKey = false;
            state.n = 0;
            state.messages = 0;
            for (int hand = 0; hand < 2; hand++) {
                if (side.pattern.isKnownAhead(hand)) {
                    mixHash(state, hand == side.hand ? side.publicS : side.toldS, 0, KEY_SIZE);
                }
            }
        }

        void send(Side side, Row payload, Row letter) {
            State state = side.state;
            letter.size = 0;
            int tokens = side.pattern.sizeOf(state.messages);
            for (int i = 0; i < tokens; i++) {
                int t = side.pattern.tokenAt(state.messages, i);
                if (t == E) {
                    sendE(side, letter);
                } else if (t == S) {
                    seal(state, side.publicS, KEY_SIZE, letter);
                } else {
                    mixDh(side, state, t);
                }
            }
            seal(state, payload.bytes, payload.size, letter);
            endMessage(side, state);
        }

        /** False, with nothing changed but the trial, where a tag is not right. */
        boolean take(Side side, Row letter, Row got) {
            trial.copyFrom(side.state);
            int at = 0;
            int tokens = side.pattern.sizeOf(trial.messages);
            for (int i = 0; i < tokens; i++) {
                int t = side.pattern.tokenAt(trial.messages, i);
                if (t == E) {
                    takeE(letter, at);
                    at += KEY_SIZE;
                } else if (t == S) {
                    int end = at + (trial.hasKey ? KEY_SIZE + TAG_SIZE : KEY_SIZE);
                    if (!open(trial, letter, at, end, opened)) {
                        return false;
                    }
                    copyKey(opened.bytes, trial.otherS);
                    trial.knowsS = true;
                    at = end;
                } else {
                    mixDh(side, trial, t);
                }
            }
            if (!open(trial, letter, at, letter.size, got)) {
                return false;
            }
            endMessage(side, trial);
            side.state.copyFrom(trial);
            return true;
        }

        void sendDone(State state, Row payload, Row letter) {
            letter.size = 0;
            letter.putAll(payload.bytes, 0, payload.size);
            cipher.seal(state.k, state.n, NOTHING, letter, 0);
            state.n++;
        }

        boolean takeDone(State state, Row letter, Row got) {
            int end = letter.size - TAG_SIZE;
            if (!cipher.open(state.takeKey, state.takeCount, NOTHING, letter, 0, end, got)) {
                return false;
            }
            state.takeCount++;
            return true;
        }

        private void sendE(Side side, Row letter) {
            State state = side.state;
            state.used++;
            secretOf(side.seedE, state.used, state.ownE);
            curve.multiplyPoint(state.ownE, Curve.BASE, point);
            mixHash(state, point, 0, KEY_SIZE);
            letter.putAll(point, 0, KEY_SIZE);
        }

        private void takeE(Row letter, int at) {
            System.arraycopy(letter.bytes, at, trial.otherE, 0, KEY_SIZE);
            trial.knowsE = true;
            mixHash(trial, trial.otherE, 0, KEY_SIZE);
        }

        private void mixHash(State state, int[] from, int start, int end) {
            sha.begin();
            sha.add(state.h, 0, KEY_SIZE);
            sha.add(from, start, end);
            sha.finish(state.h);
        }

        private void mixDh(Side side, State state, int t) {
            boolean firstByE = t == EE || t == ES;
            boolean secondByE = t == EE || t == SE;
            boolean ownByE = side.hand == 0 ? firstByE : secondByE;
            boolean otherByE = side.hand == 0 ? secondByE : firstByE;
            int[] own = ownByE ? state.ownE : side.secretS;
            int[] other = otherByE ? state.otherE : state.otherS;
            curve.multiplyPoint(own, other, point);
            mac.makeKeys(state.ck, point, KEY_SIZE, state.ck, state.k);
            state.hasKey = true;
            state.n = 0;
        }

        private void seal(State state, int[] text, int size, Row letter) {
            int start = letter.size;
            letter.putAll(text, 0, size);
            if (state.hasKey) {
                cipher.seal(state.k, state.n, state.h, letter, start);
                state.n++;
            }
            mixHash(state, letter.bytes, start, letter.size);
        }

        private boolean open(State state, Row letter, int start, int end, Row out) {
            if (!state.hasKey) {
                out.size = 0;
                out.putAll(letter.bytes, start, end);
            } else if (cipher.open(state.k, state.n, state.h, letter, start, end - TAG_SIZE, out)) {
                state.n++;
            } else {
                return false;
            }
            mixHash(state, letter.bytes, start, end);
            return true;
        }

        private void endMessage(Side side, State state) {
            state.messages++;
            if (state.messages < side.pattern.messages) {
                return;
            }
            int[] one = side.hand == 0 ? state.k : state.takeKey;
            int[] two = side.hand == 0 ? state.takeKey : state.k;
            mac.makeKeys(state.ck, NOTHING, 0, one, two);
            state.hasKey = true;
            state.n = 0;
            state.takeCount = 0;
        }
    }

    /** SHA-256 (FIPS 180-4), byte after byte. */
    private static final class Sha {
        private static final int[] FIRST = {
            0x6a09e667, 0xbb67ae85, 0x3c6ef372, 0xa54ff53a, 0x510e527f, 0x9b05688c, 0x1f83d9ab, 0x5be0cd19
        };
        private static final int[] ROUND = {
            0x428a2f98, 0x71374491, 0xb5c0fbcf, 0xe9b5dba5, 0x3956c25b, 0x59f111f1, 0x923f82a4, 0xab1c5ed5,
            0xd807aa98, 0x12835b01, 0x243185be, 0x550c7dc3, 0x72be5d74, 0x80deb1fe, 0x9bdc06a7, 0xc19bf174,
            0xe49b69c1, 0xefbe4786, 0x0fc19dc6, 0x240ca1cc, 0x2de92c6f, 0x4a7484aa, 0x5cb0a9dc, 0x76f988da,
            0x983e5152, 0xa831c66d, 0xb00327c8, 0xbf597fc7, 0xc6e00bf3, 0xd5a79147, 0x06ca6351, 0x14292967,
            0x27b70a85, 0x2e1b2138, 0x4d2c6dfc, 0x53380d13, 0x650a7354, 0x766a0abb, 0x81c2c92e, 0x92722c85,
            0xa2bfe8a1, 0xa81a664b, 0xc24b8b70, 0xc76c51a3, 0xd192e819, 0xd6990624, 0xf40e3585, 0x106aa070,
            0x19a4c116, 0x1e376c08, 0x2748774c, 0x34b0bcb5, 0x391c0cb3, 0x4ed8aa4a, 0x5b9cca4f, 0x682e6ff3,
            0x748f82ee, 0x78a5636f, 0x84c87814, 0x8cc70208, 0x90befffa, 0xa4506ceb, 0xbef9a3f7, 0xc67178f2
        };

        private final int[] sums = new int[8];
        private final int[] words = new int[64];
        private int filled = 0;
        private int length = 0;

        void begin() {
            System.arraycopy(FIRST, 0, sums, 0, 8);
            filled = 0;
            length = 0;
        }

        void add(int[] from, int start, int end) {
            for (int i = start; i < end; i++) {
                addByte(from[i]);
            }
        }

        void addNumber(int x) {
            for (int shift = 24; shift >= 0; shift -= 8) {
                addByte(x >>> shift & 255);
            }
        }

        void addByte(int b) {
            // A word's old bits are all shifted out by its four bytes.
            words[filled >> 2] = words[filled >> 2] << 8 | b;
            length++;
            filled = filled + 1 & 63;
            if (filled == 0) {
                addBlock();
            }
        }

        void finish(int[] out) {
            int bits = 8 * length;
            addByte(128);
            // Up to the length's eight bytes, the upper four of which are always 0 here.
            int zeros = (56 - filled & 63) + 4;
            for (int i = 0; i < zeros; i++) {
                addByte(0);
            }
            for (int shift = 24; shift >= 0; shift -= 8) {
                addByte(bits >>> shift & 255);
            }
            for (int i = 0; i < KEY_SIZE; i++) {
                out[i] = sums[i >> 2] >>> 24 - 8 * (i & 3) & 255;
            }
        }

        private void addBlock() {
            for (int i = 16; i < 64; i++) {
                int x = words[i - 15];
                int y = words[i - 2];
                int low = (x >>> 7 | x << 25) ^ (x >>> 18 | x << 14) ^ x >>> 3;
                int high = (y >>> 17 | y << 15) ^ (y >>> 19 | y << 13) ^ y >>> 10;
                words[i] = words[i - 16] + low + words[i - 7] + high;
            }
            int a = sums[0], b = sums[1], c = sums[2], d = sums[3];
            int e = sums[4], f = sums[5], g = sums[6], h = sums[7];
            for (int i = 0; i < 64; i++) {
                int ofE = (e >>> 6 | e << 26) ^ (e >>> 11 | e << 21) ^ (e >>> 25 | e << 7);
                int ofA = (a >>> 2 | a << 30) ^ (a >>> 13 | a << 19) ^ (a >>> 22 | a << 10);
                int one = h + ofE + (e & f ^ ~e & g) + ROUND[i] + words[i];
                int two = ofA + (a & b ^ a & c ^ b & c);
                h = g;
                g = f;
                f = e;
                e = d + one;
                d = c;
                c = b;
                b = a;
                a = one + two;
            }
            sums[0] += a;
            sums[1] += b;
            sums[2] += c;
            sums[3] += d;
            sums[4] += e;
            sums[5] += f;
            sums[6] += g;
            sums[7] += h;
        }
    }

    /** HMAC (RFC 2104) with keys of 32 bytes, and the KEYS that are made by it. */
    private static final class Mac {
        private static final int BLOCK_SIZE = 64;

        private final Sha sha = new Sha();
        private final int[] inner = new int[KEY_SIZE];
        private final int[] middle = new int[KEY_SIZE];
        private final int[] text = new int[KEY_SIZE + 1];

        /** c may be the row that one goes to: it is not looked at any more by then. */
        void makeKeys(int[] c, int[] x, int size, int[] one, int[] two) {
            makeMac(c, x, size, middle);
            text[0] = 1;
            makeMac(middle, text, 1, one);
            copyKey(one, text);
            text[KEY_SIZE] = 2;
            makeMac(middle, text, KEY_SIZE + 1, two);
        }

        private void makeMac(int[] by, int[] of, int size, int[] out) {
            beginWith(by, 0x36);
            sha.add(of, 0, size);
            sha.finish(inner);
            beginWith(by, 0x5c);
            sha.add(inner, 0, KEY_SIZE);
            sha.finish(out);
        }

        private void beginWith(int[] by, int pad) {
            sha.begin();
            for (int i = 0; i < BLOCK_SIZE; i++) {
                sha.addByte(i < KEY_SIZE ? by[i] ^ pad : pad);
            }
        }
    }

    /**
     * X25519 (RFC 7748). A number modulo 2^255 - 19 is ten limbs of 26 and 25 bits by turns, the lowest first.
     * Sums and differences of carried numbers may be multiplied as they are; nothing else is left uncarried.
     */
    private static final class Curve {
        static final int[] BASE = {
            9, 0, 0, 0, 0, 0, 0, 0, 0, 0, 0, 0, 0, 0, 0, 0, 0, 0, 0, 0, 0, 0, 0, 0, 0, 0, 0, 0, 0, 0, 0, 0
        };
        private static final int LIMBS = 10;

        private final int[] scalar = new int[KEY_SIZE];
        private final long[] x1 = new long[LIMBS];
        private long[] x2 = new long[LIMBS];
        private long[] z2 = new long[LIMBS];
        private long[] x3 = new long[LIMBS];
        private long[] z3 = new long[LIMBS];
        private final long[] a = new long[LIMBS];
        private final long[] b = new long[LIMBS];
        private final long[] c = new long[LIMBS];
        private final long[] d = new long[LIMBS];

        void multiplyPoint(int[] secret, int[] point, int[] out) {
            copyKey(secret, scalar);
            scalar[0] &= 248;
            scalar[31] = scalar[31] & 127 | 64;
            unpack(point, x1);
            setSmall(x2, 1);
            setSmall(z2, 0);
            System.arraycopy(x1, 0, x3, 0, LIMBS);
            setSmall(z3, 1);
            boolean swapped = false;
            for (int i = 254; i >= 0; i--) {
                boolean bit = (scalar[i >> 3] >> (i & 7) & 1) == 1;
                if (bit != swapped) {
                    swap();
                }
                swapped = bit;
                step();
            }
            // The lowest bits of a scalar are 0, so nothing is left swapped.
            invert(z2, a);
            multiply(x2, a, x2);
            pack(x2, out);
        }

        private void swap() {
            long[] x = x2;
            long[] z = z2;
            x2 = x3;
            z2 = z3;
            x3 = x;
            z3 = z;
        }

        private void step() {
            add(x2, z2, a);
            subtract(x2, z2, b);
            add(x3, z3, c);
            subtract(x3, z3, d);
            multiply(d, a, d);
            multiply(c, b, c);
            multiply(a, a, a);
            multiply(b, b, b);
            add(d, c, x3);
            multiply(x3, x3, x3);
            subtract(d, c, z3);
            multiply(z3, z3, z3);
            multiply(x1, z3, z3);
            multiply(a, b, x2);
            subtract(a, b, b);
            scale(b, z2);
            add(a, z2, z2);
            multiply(b, z2, z2);
        }

        /** f to the power 2^255 - 21, all of whose bits are 1 but for the bits 2 and 4. */
        private static void invert(long[] f, long[] out) {
            System.arraycopy(f, 0, out, 0, LIMBS);
            for (int bit = 253; bit >= 0; bit--) {
                multiply(out, out, out);
                if (bit != 2 && bit != 4) {
                    multiply(out, f, out);
                }
            }
        }

        private static void setSmall(long[] out, int value) {
            for (int i = 0; i < LIMBS; i++) {
                out[i] = i == 0 ? value : 0;
            }
        }

        private static void add(long[] f, long[] g, long[] out) {
            for (int i = 0; i < LIMBS; i++) {
                out[i] = f[i] + g[i];
            }
        }

        private static void subtract(long[] f, long[] g, long[] out) {
            for (int i = 0; i < LIMBS; i++) {
                out[i] = f[i] - g[i];
            }
        }

        private static void scale(long[] f, long[] out) {
            for (int i = 0; i < LIMBS; i++) {
                out[i] = 121665 * f[i];
            }
            carry(out);
        }

        /** Written out, since it is nearly all of the work: d is twice f where two odd limbs meet, n 19 times g. */
        private static void multiply(long[] f, long[] g, long[] out) {
            long f0 = f[0], f1 = f[1], f2 = f[2], f3 = f[3], f4 = f[4];
            long f5 = f[5], f6 = f[6], f7 = f[7], f8 = f[8], f9 = f[9];
            long g0 = g[0], g1 = g[1], g2 = g[2], g3 = g[3], g4 = g[4];
            long g5 = g[5], g6 = g[6], g7 = g[7], g8 = g[8], g9 = g[9];
            long d1 = 2 * f1, d3 = 2 * f3, d5 = 2 * f5, d7 = 2 * f7, d9 = 2 * f9;
            long n1 = 19 * g1, n2 = 19 * g2, n3 = 19 * g3, n4 = 19 * g4, n5 = 19 * g5;
            long n6 = 19 * g6, n7 = 19 * g7, n8 = 19 * g8, n9 = 19 * g9;
            out[0] = f0 * g0 + d1 * n9 + f2 * n8 + d3 * n7 + f4 * n6
                    + d5 * n5 + f6 * n4 + d7 * n3 + f8 * n2 + d9 * n1;
            out[1] = f0 * g1 + f1 * g0 + f2 * n9 + f3 * n8 + f4 * n7
                    + f5 * n6 + f6 * n5 + f7 * n4 + f8 * n3 + f9 * n2;
            out[2] = f0 * g2 + d1 * g1 + f2 * g0 + d3 * n9 + f4 * n8
                    + d5 * n7 + f6 * n6 + d7 * n5 + f8 * n4 + d9 * n3;
            out[3] = f0 * g3 + f1 * g2 + f2 * g1 + f3 * g0 + f4 * n9
                    + f5 * n8 + f6 * n7 + f7 * n6 + f8 * n5 + f9 * n4;
            out[4] = f0 * g4 + d1 * g3 + f2 * g2 + d3 * g1 + f4 * g0
                    + d5 * n9 + f6 * n8 + d7 * n7 + f8 * n6 + d9 * n5;
            out[5] = f0 * g5 + f1 * g4 + f2 * g3 + f3 * g2 + f4 * g1
                    + f5 * g0 + f6 * n9 + f7 * n8 + f8 * n7 + f9 * n6;
            out[6] = f0 * g6 + d1 * g5 + f2 * g4 + d3 * g3 + f4 * g2
                    + d5 * g1 + f6 * g0 + d7 * n9 + f8 * n8 + d9 * n7;
            out[7] = f0 * g7 + f1 * g6 + f2 * g5 + f3 * g4 + f4 * g3
                    + f5 * g2 + f6 * g1 + f7 * g0 + f8 * n9 + f9 * n8;
            out[8] = f0 * g8 + d1 * g7 + f2 * g6 + d3 * g5 + f4 * g4
                    + d5 * g3 + f6 * g2 + d7 * g1 + f8 * g0 + d9 * n9;
            out[9] = f0 * g9 + f1 * g8 + f2 * g7 + f3 * g6 + f4 * g5
                    + f5 * g4 + f6 * g3 + f7 * g2 + f8 * g1 + f9 * g0;
            carry(out);
        }

        private static int width(int limb) {
            return 26 - (limb & 1);
        }

        private static void carry(long[] f) {
            long over = 0;
            for (int i = 0; i < LIMBS; i++) {
                int bits = width(i);
                long all = f[i] + over;
                over = all >> bits;
                f[i] = all & (1 << bits) - 1;
            }
            f[0] += 19 * over;
            f[1] += f[0] >> width(0);
            f[0] &= (1 << width(0)) - 1;
        }

        /** The highest bit of the point's last byte is left out, as published. */
        private static void unpack(int[] from, long[] out) {
            int start = 0;
            for (int i = 0; i < LIMBS; i++) {
                out[i] = bitsOf(from, start, width(i));
                start += width(i);
            }
        }

        private static void pack(long[] f, int[] out) {
            carry(f);
            // Whether f, now below 2^255 + 2^26, is 2^255 - 19 or more: then that is taken off.
            long over = 19;
            for (int i = 0; i < LIMBS; i++) {
                over = f[i] + over >> width(i);
            }
            over *= 19;
            long held = 0;
            int bits = 0;
            int limb = 0;
            for (int i = 0; i < KEY_SIZE; i++) {
                if (bits < 8 && limb < LIMBS) {
                    long all = f[limb] + over;
                    over = all >> width(limb);
                    held |= (all & (1 << width(limb)) - 1) << bits;
                    bits += width(limb);
                    limb++;
                }
                out[i] = (int) held & 255;
                held >>= 8;
                bits -= 8;
            }
        }
    }

    /** ChaCha20-Poly1305 (RFC 8439) with nonces that are counts. */
    private static final class Cipher {
        private static final int BLOCK_SIZE = 64;

        private final int[] start = new int[16];
        private final int[] mixed = new int[16];
        private final int[] tag = new int[TAG_SIZE];
        private final int[] tagKey = new int[KEY_SIZE];
        private final Tagger tagger = new Tagger();

        /** What the row has from a place on becomes sealed, its tag behind it. */
        void seal(int[] by, int n, int[] along, Row row, int from) {
            prepare(by, n);
            turn(row.bytes, from, row.size);
            makeTag(along, row.bytes, from, row.size);
            row.putAll(tag, 0, TAG_SIZE);
        }

        /** Opens what stands from a place to an end, the tag being behind that; out changes if the tag is right. */
        boolean open(int[] by, int n, int[] along, Row row, int from, int end, Row out) {
            prepare(by, n);
            makeTag(along, row.bytes, from, end);
            int wrong = 0;
            for (int i = 0; i < TAG_SIZE; i++) {
                wrong |= tag[i] ^ row.at(end + i);
            }
            if (wrong != 0) {
                return false;
            }
            out.size = 0;
            out.putAll(row.bytes, from, end);
            turn(out.bytes, 0, out.size);
            return true;
        }

        private void prepare(int[] by, int n) {
            start[0] = 0x61707865;
            start[1] = 0x3320646e;
            start[2] = 0x79622d32;
            start[3] = 0x6b206574;
            for (int i = 0; i < 8; i++) {
                start[4 + i] = (int) bitsOf(by, 32 * i, 32);
            }
            start[13] = 0;
            start[14] = n;
            start[15] = 0;
        }

        private void turn(int[] text, int from, int end) {
            for (int i = 0; from + i < end; i++) {
                if (i % BLOCK_SIZE == 0) {
                    makeBlock(1 + i / BLOCK_SIZE);
                }
                text[from + i] ^= blockByte(i % BLOCK_SIZE);
            }
        }

        private void makeTag(int[] along, int[] text, int from, int end) {
            makeBlock(0);
            for (int i = 0; i < KEY_SIZE; i++) {
                tagKey[i] = blockByte(i);
            }
            tagger.begin(tagKey);
            tagger.addPadded(along, 0, along.length);
            tagger.addPadded(text, from, end);
            tagger.addSizes(along.length, end - from);
            tagger.finish(tag);
        }

        private int blockByte(int i) {
            return mixed[i >> 2] >>> 8 * (i & 3) & 255;
        }

        private void makeBlock(int number) {
            start[12] = number;
            System.arraycopy(start, 0, mixed, 0, 16);
            for (int i = 0; i < 10; i++) {
                quarter(0, 4, 8, 12);
                quarter(1, 5, 9, 13);
                quarter(2, 6, 10, 14);
                quarter(3, 7, 11, 15);
                quarter(0, 5, 10, 15);
                quarter(1, 6, 11, 12);
                quarter(2, 7, 8, 13);
                quarter(3, 4, 9, 14);
            }
            for (int i = 0; i < 16; i++) {
                mixed[i] += start[i];
            }
        }

        private void quarter(int a, int b, int c, int d) {
            mix(a, b, d, 16);
            mix(c, d, b, 12);
            mix(a, b, d, 8);
            mix(c, d, b, 7);
        }

        private void mix(int sum, int by, int turned, int bits) {
            mixed[sum] += mixed[by];
            int x = mixed[turned] ^ mixed[sum];
            mixed[turned] = x << bits | x >>> 32 - bits;
        }
    }

    /** Poly1305 (RFC 8439) over whole blocks of 16 bytes; numbers are five limbs of 26 bits, the lowest first. */
    private static final class Tagger {
        private static final int LIMBS = 5, WIDTH = 26, MASK = (1 << WIDTH) - 1;

        private final long[] factor = new long[LIMBS];
        private final long[] sum = new long[LIMBS];
        private final long[] product = new long[LIMBS];
        private final int[] block = new int[TAG_SIZE + 1];
        private final int[] last = new int[TAG_SIZE];

        void begin(int[] by) {
            for (int i = 0; i < TAG_SIZE; i++) {
                block[i] = by[i] & clampOf(i);
                last[i] = by[TAG_SIZE + i];
            }
            block[TAG_SIZE] = 0;
            for (int i = 0; i < LIMBS; i++) {
                factor[i] = bitsOf(block, WIDTH * i, WIDTH);
                sum[i] = 0;
            }
        }

        void addPadded(int[] from, int start, int end) {
            for (int at = start; at < end; at += TAG_SIZE) {
                for (int i = 0; i < TAG_SIZE; i++) {
                    block[i] = at + i < end ? from[at + i] : 0;
                }
                addBlock();
            }
        }

        void addSizes(int along, int text) {
            for (int i = 0; i < TAG_SIZE; i++) {
                int size = i < 8 ? along : text;
                int place = i & 7;
                block[i] = place < 4 ? size >>> 8 * place & 255 : 0;
            }
            addBlock();
        }

        void finish(int[] tag) {
            // Whether the sum is 2^130 - 5 or more: then that is taken off.
            long over = 5;
            for (int i = 0; i < LIMBS; i++) {
                over = sum[i] + over >> WIDTH;
            }
            over *= 5;
            long held = 0;
            int bits = 0;
            int limb = 0;
            int carried = 0;
            for (int i = 0; i < TAG_SIZE; i++) {
                if (bits < 8 && limb < LIMBS) {
                    long all = sum[limb] + over;
                    over = all >> WIDTH;
                    held |= (all & MASK) << bits;
                    bits += WIDTH;
                    limb++;
                }
                carried += ((int) held & 255) + last[i];
                tag[i] = carried & 255;
                carried >>= 8;
                held >>= 8;
                bits -= 8;
            }
        }

        private static int clampOf(int i) {
            if ((i & 3) == 3) {
                return 15;
            }
            return (i & 3) == 0 && i > 0 ? 252 : 255;
        }

        private void addBlock() {
            block[TAG_SIZE] = 1;
            for (int i = 0; i < LIMBS; i++) {
                sum[i] += bitsOf(block, WIDTH * i, WIDTH);
                product[i] = 0;
            }
            for (int i = 0; i < LIMBS; i++) {
                for (int j = 0; j < LIMBS; j++) {
                    long part = sum[i] * factor[j];
                    if (i + j < LIMBS) {
                        product[i + j] += part;
                    } else {
                        product[i + j - LIMBS] += 5 * part;
                    }
                }
            }
            long over = 0;
            for (int i = 0; i < LIMBS; i++) {
                long all = product[i] + over;
                over = all >> WIDTH;
                sum[i] = all & MASK;
            }
            sum[0] += 5 * over;
            sum[1] += sum[0] >> WIDTH;
            sum[0] &= MASK;
        }
    }
}
