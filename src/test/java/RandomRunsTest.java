import java.util.Random;

/** Long runs of calls by a fixed seed, all promises mingled, each answer measured by the model's. */
public final class RandomRunsTest {
    private static final int RUNS = 1000, FAULT_RUNS = 2000;
    // Each with who is known ahead: 0 nobody, 1 HAND 0, 2 HAND 1, 3 both.
    private static final String[] GOOD = {
        "0e eE", "2eF eE", "0e eEsF", "0e eE sG", "2eF eE sG", "0e eEsF sG", "1e eEG", "3eFS eEG", "1e eEGsF",
        "0es eEG", "2eFsS eEG", "0es eEGsF", "2eF", "3eFS", "2eFsS", "0e", "0s", "0s s", "0e sF eEGS s",
        "0s eG EF", "3e e E F G S", "3S", "3Se eFG", "0e e E s Fs G", "0es esEFG S", "2seF GeE", "1e eE sGF"};
    private static final int[] EDGES = {
        Integer.MIN_VALUE, -2, -1, 0, 1, 2, 3, 4, 5, 6, 7, 8, 9, 31, 32, 38, 39, 255, 256, Integer.MAX_VALUE};

    private final Random random;
    private final Both both;

    private RandomRunsTest(long seed, Check check) {
        random = new Random(seed);
        both = new Both(check, "seed " + seed);
    }

    public static void main(String[] args) {
        Check check = new Check("RandomRunsTest");
        for (int seed = 1; seed <= RUNS && check.wrong() == 0; seed++) {
            new RandomRunsTest(seed, check).run(check);
        }
        for (int seed = 1; seed <= FAULT_RUNS && check.wrong() == 0; seed++) {
            new RandomRunsTest(-seed, check).judgePatterns();
        }
        check.end();
    }

    private void run(Check check) {
        tellPatterns();
        makeSides();
        // A talk is at most nine calls, and the questions at the end take the rest, up to the last call that counts.
        while (both.callsLeft() > 210 && check.wrong() == 0) {
            if (random.nextInt(3) > 0) {
                talk();
            } else {
                strayCall();
            }
            both.digest();
        }
        both.ask();
        while (both.callsLeft() > 0) {
            askAnything();
        }
    }

    private void askAnything() {
        switch (random.nextInt(6)) {
            case 0 -> both.told(random.nextInt(10) - 1, random.nextInt(42) - 1);
            case 1 -> both.fault(random.nextInt(10) - 1);
            case 2 -> both.hash(random.nextInt(6) - 1, random.nextInt(34) - 1);
            case 3 -> both.same(random.nextInt(6) - 1, random.nextInt(6) - 1);
            default -> both.byteOf(random.nextInt(5) - 1, random.nextInt(100) - 1);
        }
    }

    private int edge() {
        return EDGES[random.nextInt(EDGES.length)];
    }

    private void tellPatterns() {
        int patterns = 1 + random.nextInt(3);
        for (int i = 0; i < patterns; i++) {
            String good = GOOD[random.nextInt(GOOD.length)];
            int known = good.charAt(0) - '0';
            int number = both.tell((known & 1) != 0, (known & 2) != 0, good.substring(1));
            if (random.nextInt(4) == 0) {
                both.token(number, random.nextInt(6));
            }
            both.fault(number);
        }
        int number = both.pattern(random.nextBoolean(), random.nextBoolean());
        int messages = random.nextInt(8);
        for (int m = 0; m < messages; m++) {
            both.message(number);
            int tokens = random.nextInt(7);
            for (int k = 0; k < tokens; k++) {
                both.token(number, random.nextInt(6));
            }
            both.fault(number);
        }
    }

    /** Good patterns with a token put in, left out or made another, so that each fault comes up. */
    private void judgePatterns() {
        for (int i = 0; i < 8; i++) {
            StringBuilder text = new StringBuilder(GOOD[random.nextInt(GOOD.length)]);
            int known = random.nextInt(3) == 0 ? random.nextInt(4) : text.charAt(0) - '0';
            text.deleteCharAt(0);
            int changes = random.nextInt(4);
            for (int j = 0; j < changes; j++) {
                change(text);
            }
            both.fault(both.tell((known & 1) != 0, (known & 2) != 0, text.toString()));
        }
    }

    private void change(StringBuilder text) {
        int at = random.nextInt(text.length());
        char token = "esEFGS ".charAt(random.nextInt(7));
        switch (random.nextInt(3)) {
            case 0 -> text.insert(at, token);
            case 1 -> text.setCharAt(at, token);
            default -> text.replace(at, at + (text.length() > 1 ? 1 : 0), "");
        }
    }

    private void makeSides() {
        for (int i = 0; i < 2; i++) {
            int pattern = random.nextInt(3);
            int other = random.nextInt(8) == 0 ? 8 : 7;
            both.side(pattern, 0, 5, other, random.nextInt());
            both.side(pattern, 1, 7, 5, random.nextInt());
        }
    }

    private void talk() {
        int pair = 2 * random.nextInt(2);
        int writer = pair + random.nextInt(2);
        int reader = random.nextInt(12) == 0 ? random.nextInt(4) : 2 * pair + 1 - writer;
        if (random.nextBoolean()) {
            both.feed(random.nextLong(), 1 + random.nextInt(8));
        }
        int size = both.write(writer);
        if (random.nextInt(5) == 0 && size > 0) {
            int i = random.nextInt(size), x = 1 + random.nextInt(255);
            both.alter(i, x);
            both.read(reader);
            if (random.nextBoolean()) {
                both.alter(i, x);
            }
        }
        if (random.nextInt(10) == 0 && size > 0) {
            both.cut(random.nextInt(size + 1));
        }
        both.read(reader);
        both.same(writer, reader);
    }

    private void strayCall() {
        switch (random.nextInt(20)) {
            case 0 -> both.pattern(random.nextBoolean(), random.nextBoolean());
            case 1 -> both.message(edge());
            case 2 -> both.token(edge(), edge());
            case 3 -> both.fault(edge());
            case 4 -> both.told(edge(), random.nextInt(42) - 1);
            case 5 -> both.side(edge(), edge(), edge(), edge(), edge());
            case 6 -> both.side(random.nextInt(4), random.nextInt(2), random.nextInt(9) - 2, random.nextInt(9) - 2, 3);
            case 7, 8 -> both.again(random.nextInt(5));
            case 9 -> both.feed(random.nextLong(), random.nextInt(12) - 2);
            case 10 -> both.feed(random.nextLong(), 8);
            case 11 -> both.write(edge());
            case 12 -> both.read(edge());
            case 13 -> both.alter(random.nextInt(170) - 5, edge());
            case 14 -> both.cut(random.nextInt(100) - 2);
            case 15 -> both.byteOf(random.nextInt(5) - 1, edge());
            case 16 -> both.hash(random.nextInt(6) - 1, edge());
            case 17 -> both.about(random.nextInt(6) - 1, edge());
            case 18 -> both.same(edge(), random.nextInt(5));
            default -> both.key(edge(), edge(), edge());
        }
    }
}
