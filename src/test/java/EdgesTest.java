import java.lang.reflect.Constructor;
import java.lang.reflect.Method;
import java.util.Arrays;
import java.util.HashSet;
import java.util.Set;

/**
 * Numbers at the edges of 2^130 - 5 and of 2^255 - 19. No call of the face comes to them in any number of tries, so
 * this test reaches into the class. How the class is made inside is free: where it has no such parts, this test says
 * so and looks at nothing.
 */
public final class EdgesTest {
    private static final Check check = new Check("EdgesTest");
    private static final String ZEROS = "00000000000000000000000000000000";
    private static final String ONES = "ffffffffffffffffffffffffffffffff";

    public static void main(String[] args) throws ReflectiveOperationException {
        if (has("begin", "addPadded", "finish", "StepShake$Tagger")) {
            tagsOfTheRfc();
        }
        if (has("unpack", "pack", "carry", "StepShake$Curve")) {
            numbersOfTheCurve();
        }
        check.end();
    }

    private static boolean has(String first, String second, String third, String inside) {
        for (Class<?> one : StepShake.class.getDeclaredClasses()) {
            Set<String> names = new HashSet<>();
            for (Method method : one.getDeclaredMethods()) {
                names.add(method.getName());
            }
            if (one.getName().equals(inside) && names.containsAll(Set.of(first, second, third))) {
                return true;
            }
        }
        System.out.println("EdgesTest: there is no such " + inside + " any more, its edges are NOT looked at");
        return false;
    }

    /** RFC 8439, A.3. */
    private static void tagsOfTheRfc() throws ReflectiveOperationException {
        tag(2, ZEROS, ONES, "03000000000000000000000000000000");
        tag(2, ONES, "02000000000000000000000000000000", "03000000000000000000000000000000");
        tag(1, ZEROS, ONES + "f0ffffffffffffffffffffffffffffff" + "11000000000000000000000000000000",
                "05000000000000000000000000000000");
        tag(1, ZEROS, ONES + "fbfefefefefefefefefefefefefefefe" + "01010101010101010101010101010101", ZEROS);
        tag(2, ZEROS, "fdffffffffffffffffffffffffffffff", "faffffffffffffffffffffffffffffff");
        // Sums of three blocks that are 2^130 - 6, 2^130 - 5 and 2^130 - 4, not in the RFC.
        tag(1, ZEROS, "fa" + ONES.substring(2) + ZEROS + ZEROS, "fa" + ONES.substring(2));
        tag(1, ZEROS, "fb" + ONES.substring(2) + ZEROS + ZEROS, ZEROS);
        tag(1, ZEROS, "fc" + ONES.substring(2) + ZEROS + ZEROS, "01" + ZEROS.substring(2));
    }

    private static void numbersOfTheCurve() throws ReflectiveOperationException {
        String end = "ffffffffffffffffffffffffffffff7f", zeros = ZEROS.substring(2);
        packed("ec" + ONES.substring(2) + end, "ec" + ONES.substring(2) + end);
        packed("ed" + ONES.substring(2) + end, "00" + zeros + ZEROS);
        packed("ee" + ONES.substring(2) + end, "01" + zeros + ZEROS);
        packed("ff" + ONES.substring(2) + end, "12" + zeros + ZEROS);
        packed("ff" + ONES.substring(2) + ONES, "12" + zeros + ZEROS);
        packed("00" + zeros + ZEROS, "00" + zeros + ZEROS);
        // Limbs beyond their bits, as they come of a carry into the lowest, and below 0.
        limbs(1, 1 << 25, "00000000000008" + ZEROS.substring(14) + ZEROS);
        limbs(1, -1, "edffff" + "fb" + ONES.substring(8) + end);
        limbs(0, -1, "ec" + ONES.substring(2) + end);
        limbs(0, -19, "da" + ONES.substring(2) + end);
        limbs(9, 1 << 25, "13" + zeros + ZEROS);
    }

    private static int[] ints(String hex) {
        byte[] bytes = Published.bytes(hex);
        int[] out = new int[bytes.length];
        for (int i = 0; i < out.length; i++) {
            out[i] = bytes[i] & 255;
        }
        return out;
    }

    private static void call(String inside, Object of, String name, Object... values)
            throws ReflectiveOperationException {
        for (Method method : Class.forName(inside).getDeclaredMethods()) {
            if (method.getName().equals(name)) {
                method.setAccessible(true);
                method.invoke(of, values);
                return;
            }
        }
        check.holds("there is " + inside + "." + name, false);
    }

    private static void tag(int r, String s, String text, String want) throws ReflectiveOperationException {
        String inside = "StepShake$Tagger";
        Constructor<?> maker = Class.forName(inside).getDeclaredConstructor();
        maker.setAccessible(true);
        Object tagger = maker.newInstance();
        int[] by = ints(ZEROS + s);
        by[0] = r;
        int[] row = ints(text);
        int[] got = new int[16];
        call(inside, tagger, "begin", by);
        call(inside, tagger, "addPadded", row, 0, row.length);
        call(inside, tagger, "finish", got);
        check.holds("the tag of " + text + " is " + want, Arrays.equals(got, ints(want)));
    }

    private static void packed(String from, String want) throws ReflectiveOperationException {
        long[] limbs = new long[10];
        call("StepShake$Curve", null, "unpack", ints(from), limbs);
        isPacked("the number " + from, limbs, want);
    }

    private static void limbs(int place, long value, String want) throws ReflectiveOperationException {
        long[] limbs = new long[10];
        limbs[place] = value;
        isPacked(value + " at limb " + place, limbs, want);
    }

    private static void isPacked(String what, long[] limbs, String want) throws ReflectiveOperationException {
        int[] got = new int[32];
        call("StepShake$Curve", null, "pack", limbs, got);
        check.holds(what + " packed is " + want + ", not " + Arrays.toString(got), Arrays.equals(got, ints(want)));
    }
}
