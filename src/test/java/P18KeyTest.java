/** Promise 18: key. */
public final class P18KeyTest {
    private static final Check check = new Check("P18KeyTest");
    private static final int[] NUMBERS = {
        Calls.MIN, -256, -2, -1, 0, 1, 2, 255, 256, 65536, 0x01020304, Calls.MAX};

    public static void main(String[] args) {
        badPlace();
        everyPlace();
        everyNumber();
        highestFirst();
        whatSidesSend();
        changesNothing();
        check.end();
    }

    private static void badPlace() {
        for (int i : new int[] {Calls.MIN, -1, 32, 33, Calls.MAX}) {
            check.due("key(1, 2, " + i + ")", new StepShake().key(1, 2, i), -2);
            Calls.refused(check, "key(-1, -1, " + i + ")", -2, () -> Calls.pairAfter(1, false, false, "e eE"),
                    x -> x.key(-1, -1, i));
        }
    }

    private static void everyPlace() {
        byte[] want = Calls.publicOf(3, 4);
        StepShake x = new StepShake();
        for (int i = 0; i < 32; i++) {
            check.due("key(3, 4, " + i + ")", x.key(3, 4, i), want[i] & 255);
        }
    }

    /** No v and no j is BAD, NONE being a number like others here. */
    private static void everyNumber() {
        for (int v : NUMBERS) {
            StepShake x = new StepShake();
            for (int j : NUMBERS) {
                byte[] want = Calls.publicOf(v, j);
                for (int i : new int[] {0, 5, 10, 15, 20, 25, 30, 31}) {
                    check.due("key(" + v + ", " + j + ", " + i + ")", x.key(v, j, i), want[i] & 255);
                }
            }
        }
    }

    private static void highestFirst() {
        byte[] one = Published.publicOf(Published.hash(Published.bytes("0102030405060708")));
        byte[] low = Published.publicOf(Published.hash(Published.bytes("fffffffe80000000")));
        for (int i = 0; i < 32; i += 31) {
            check.due("key of 01020304 05060708", new StepShake().key(0x01020304, 0x05060708, i), one[i] & 255);
            check.due("key of -2 and the least", new StepShake().key(-2, Calls.MIN, i), low[i] & 255);
        }
    }

    private static void whatSidesSend() {
        StepShake x = Calls.pair(false, false, "es");
        x.write(0);
        for (int i = 0; i < 32; i++) {
            check.due("byte " + i + " of e", x.byteOf(0, i), x.key(50, 1, i));
            check.due("byte " + i + " of s", x.byteOf(0, 32 + i), x.key(5, 0, i));
        }
    }

    private static void changesNothing() {
        int want = Calls.publicOf(50, 1)[0] & 255;
        Calls.refused(check, "key between write and read", want, () -> {
            StepShake x = Calls.pair(false, true, "eF eE");
            x.write(0);
            return x;
        }, x -> x.key(50, 1, 0));
        Calls.refused(check, "key ahead of write", want, () -> Calls.pairAfter(1, false, true, "eF eE"),
                x -> x.key(50, 1, 0));
        Calls.refused(check, "key of what is DONE", want, () -> Calls.donePair(false, true, "eF eE"),
                x -> x.key(50, 1, 0));
    }
}
