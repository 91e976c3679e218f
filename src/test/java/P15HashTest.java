/** Promise 15: hash. */
public final class P15HashTest {
    private static final Check check = new Check("P15HashTest");

    public static void main(String[] args) {
        badSide();
        badPlace();
        everyPlace();
        afterMessages();
        notAfterDone();
        notWhereRefused();
        check.end();
    }

    private static void badSide() {
        check.due("hash(0, 0) without sides", new StepShake().hash(0, 0), -2);
        for (int side : new int[] {Calls.MIN, -1, 2, 4, Calls.MAX}) {
            check.due("hash(" + side + ", 0)", Calls.pair(false, false, "e eE").hash(side, 0), -2);
            check.due("hash(" + side + ", 32)", Calls.pair(false, false, "e eE").hash(side, 32), -2);
        }
    }

    private static void badPlace() {
        for (int i : new int[] {Calls.MIN, -1, 32, 33, Calls.MAX}) {
            Calls.refused(check, "hash(0, " + i + ")", -2, () -> Calls.pair(false, false, "e eE"),
                    x -> x.hash(0, i));
        }
    }

    private static void everyPlace() {
        byte[] name = Calls.name();
        for (int side = 0; side < 2; side++) {
            StepShake x = Calls.pair(false, false, "e eE");
            for (int i = 0; i < 32; i++) {
                check.due("hash(" + side + ", " + i + ")", x.hash(side, i), name[i]);
            }
        }
        StepShake x = Calls.pair(true, false, "e eE");
        byte[] want = Published.hash(name, Calls.publicOf(5, 0));
        for (int i = 0; i < 32; i++) {
            check.due("hash(1, " + i + "), not signed", x.hash(1, i), want[i] & 255);
        }
    }

    private static void afterMessages() {
        StepShake x = Calls.pair(false, false, "e eE");
        x.feed(0x0102, 2);
        x.write(0);
        byte[] want = Published.hash(Published.hash(Calls.name(), Calls.publicOf(50, 1)), new byte[] {1, 2});
        Calls.isRow(check, "h of who wrote", Calls.h(x, 0), want);
        Calls.isRow(check, "h of who did not read yet", Calls.h(x, 1), Calls.name());
        x.read(1);
        Calls.isRow(check, "h of who read", Calls.h(x, 1), want);
        x.write(1);
        byte[] letter = Calls.row(x, 0);
        want = Published.hash(Published.hash(want, Published.part(letter, 0, 32)), Published.part(letter, 32, 48));
        Calls.isRow(check, "h at the end", Calls.h(x, 1), want);
        x.read(0);
        Calls.isRow(check, "h at the end of the other", Calls.h(x, 0), want);
    }

    private static void notAfterDone() {
        StepShake x = Calls.donePair(false, false, "e eE");
        byte[] h = Calls.h(x, 0);
        x.feed(1, 1);
        x.write(0);
        x.read(1);
        Calls.isRow(check, "h of who sent, DONE", Calls.h(x, 0), h);
        Calls.isRow(check, "h of who read, DONE", Calls.h(x, 1), h);
    }

    private static void notWhereRefused() {
        StepShake x = Calls.pairAfter(1, false, false, "e eE");
        x.write(1);
        byte[] h = Calls.h(x, 0);
        x.alter(47, 1);
        x.read(0);
        Calls.isRow(check, "h behind FALSE", Calls.h(x, 0), h);
        x.cut(47);
        x.read(0);
        Calls.isRow(check, "h behind SHORT", Calls.h(x, 0), h);
        x.write(0);
        Calls.isRow(check, "h behind NO", Calls.h(x, 0), h);
    }
}
