import java.lang.reflect.Constructor;
import java.lang.reflect.Method;
import java.util.Arrays;

/**
 * The tags of RFC 8439, A.3, whose sums lie at the edges of 2^130 - 5. No call of the face comes to such a sum in
 * any number of tries, so this test reaches into the class.
 */
public final class TaggerTest {
    private static final Check check = new Check("TaggerTest");
    private static final String ZEROS = "00000000000000000000000000000000";
    private static final String ONES = "ffffffffffffffffffffffffffffffff";

    public static void main(String[] args) throws ReflectiveOperationException {
        tag(2, ZEROS, ONES, "03000000000000000000000000000000");
        tag(2, ONES, "02000000000000000000000000000000", "03000000000000000000000000000000");
        tag(1, ZEROS, ONES + "f0ffffffffffffffffffffffffffffff" + "11000000000000000000000000000000",
                "05000000000000000000000000000000");
        tag(1, ZEROS, ONES + "fbfefefefefefefefefefefefefefefe" + "01010101010101010101010101010101", ZEROS);
        tag(2, ZEROS, "fdffffffffffffffffffffffffffffff", "faffffffffffffffffffffffffffffff");
        check.end();
    }

    private static int[] ints(String hex) {
        byte[] bytes = Published.bytes(hex);
        int[] out = new int[bytes.length];
        for (int i = 0; i < out.length; i++) {
            out[i] = bytes[i] & 255;
        }
        return out;
    }

    private static Object part(Object of, String name, Class<?>[] types, Object... values)
            throws ReflectiveOperationException {
        Method method = of.getClass().getDeclaredMethod(name, types);
        method.setAccessible(true);
        return method.invoke(of, values);
    }

    private static void tag(int r, String s, String text, String want) throws ReflectiveOperationException {
        Constructor<?> maker = Class.forName("StepShake$Tagger").getDeclaredConstructor();
        maker.setAccessible(true);
        Object tagger = maker.newInstance();
        int[] by = ints(ZEROS + s);
        by[0] = r;
        int[] row = ints(text);
        int[] got = new int[16];
        part(tagger, "begin", new Class<?>[] {int[].class}, (Object) by);
        part(tagger, "addPadded", new Class<?>[] {int[].class, int.class, int.class}, row, 0, row.length);
        part(tagger, "finish", new Class<?>[] {int[].class}, (Object) got);
        check.holds("the tag of " + text + " is " + want, Arrays.equals(got, ints(want)));
    }
}
