/** Promises 18 to 20: key, count, digest. */
public final class KeyTest {
    private static final Check check = new Check("KeyTest");

    public static void main(String[] args) {
        keys();
        badPlaces();
        keyChangesNothing();
        counts();
        digests();
        check.end();
    }

    private static void keys() {
        StepShake x = new StepShake();
        int[] numbers = {0, 1, 2, 255, 256, 65536, -1, Integer.MAX_VALUE, Integer.MIN_VALUE, 0x01020304};
        for (int v : numbers) {
            for (int j : numbers) {
                byte[] want = Published.publicOf(Published.secret(v, j));
                for (int i = 0; i < 32; i += 5) {
                    check.due("key(" + v + ", " + j + ", " + i + ")", x.key(v, j, i), want[i] & 255);
                }
                check.due("key(" + v + ", " + j + ", 31)", x.key(v, j, 31), want[31] & 255);
            }
        }
        byte[] want = Published.publicOf(Published.secret(3, 4));
        for (int i = 0; i < 32; i++) {
            check.due("key(3, 4, " + i + ")", x.key(3, 4, i), want[i] & 255);
        }
    }

    private static void badPlaces() {
        StepShake x = new StepShake();
        int[] places = {-1, 32, Integer.MAX_VALUE, Integer.MIN_VALUE};
        for (int i : places) {
            check.due("key(1, 2, " + i + ")", x.key(1, 2, i), -2);
        }
    }

    private static void keyChangesNothing() {
        StepShake x = Calls.pair(false, true, "eF eE");
        x.write(0);
        x.key(1, 2, 3);
        check.due("read with a key ahead of it", x.read(1), 0);
        long before = x.digest();
        x.key(1, 2, 3);
        check.due("digest", x.digest(), before);
        x.write(1);
        x.key(50, 1, 0);
        check.due("read with a key ahead of it", x.read(0), 0);
    }

    private static void counts() {
        StepShake x = Calls.pair(false, false, "e eE");
        x.pattern(false, false);
        x.feed(0, 3);
        x.write(0);
        x.feed(0, 4);
        x.read(1);
        int[] want = {2, 2, 4, 35, 3};
        for (int what = 0; what <= 4; what++) {
            check.due("count(" + what + ")", x.count(what), want[what]);
        }
        check.due("count(5)", x.count(5), -2);
        check.due("count(-1)", x.count(-1), -2);
        check.due("count of the least int", x.count(Integer.MIN_VALUE), -2);
    }

    private static long digestByCalls(StepShake x) {
        long h = 67;
        for (int side = 0; side < x.count(1); side++) {
            for (int what = 2; what <= 8; what++) {
                h = 31 * h + x.about(side, what);
            }
            for (byte b : Calls.h(x, side)) {
                h = 31 * h + (b & 255);
            }
        }
        for (int what = 0; what <= 1; what++) {
            for (byte b : Calls.row(x, what)) {
                h = 31 * h + (b & 255);
            }
        }
        return h;
    }

    private static void digests() {
        StepShake x = new StepShake();
        check.due("digest of nothing", x.digest(), 67);
        x.feed(1, 1);
        x.pattern(true, true);
        check.due("THE TAPE and PATTERNS do not count", x.digest(), 67);
        x = Calls.pair(false, false, "e eEsF sG");
        check.due("digest of two sides", x.digest(), digestByCalls(x));
        for (int m = 0; m < 5; m++) {
            x.feed(0xabcdef, 3);
            x.write(m & 1);
            check.due("digest after write " + m, x.digest(), digestByCalls(x));
            x.read(1 - (m & 1));
            check.due("digest after read " + m, x.digest(), digestByCalls(x));
        }
        check.due("digest twice", x.digest(), x.digest());
        check.due("one object does not change another", new StepShake().digest(), 67);
    }
}
