import com.sun.management.ThreadMXBean;
import java.io.IOException;
import java.lang.management.ManagementFactory;
import java.lang.reflect.Constructor;
import java.lang.reflect.Field;
import java.lang.reflect.Method;
import java.lang.reflect.Modifier;
import java.nio.file.Files;
import java.nio.file.Path;
import java.util.Set;
import java.util.TreeSet;
import java.util.regex.Matcher;
import java.util.regex.Pattern;

/** The public face, the rules of LANGUAGE.md that a test can see, and the room that calls take. */
public final class FaceTest {
    private static final Check check = new Check("FaceTest");
    private static final String SOURCE = "src/main/java/StepShake.java";
    private static final Set<String> METHODS = Set.of("int pattern(boolean,boolean)", "int message(int)",
            "int token(int,int)", "int fault(int)", "int told(int,int)", "int side(int,int,int,int,int)",
            "int again(int)", "int feed(long,int)", "int write(int)", "int read(int)", "int alter(int,int)",
            "int cut(int)", "int byteOf(int,int)", "int hash(int,int)", "int about(int,int)", "int same(int,int)",
            "int key(int,int,int)", "int count(int)", "long digest()");

    public static void main(String[] args) throws IOException {
        face();
        constants();
        classesInside();
        forbiddenWords();
        smallRoom();
        check.end();
    }

    private static String signature(Method method) {
        StringBuilder text = new StringBuilder(method.getReturnType().getName());
        text.append(' ').append(method.getName()).append('(');
        String comma = "";
        for (Class<?> type : method.getParameterTypes()) {
            text.append(comma).append(type.getName());
            comma = ",";
        }
        return text.append(')').toString();
    }

    private static void face() {
        Set<String> found = new TreeSet<>();
        for (Method method : StepShake.class.getDeclaredMethods()) {
            if (!Modifier.isPrivate(method.getModifiers())) {
                found.add(signature(method));
                check.holds(method + " is public", Modifier.isPublic(method.getModifiers()));
            }
        }
        check.holds("the methods are the document's: " + found, found.equals(METHODS));
        Constructor<?>[] constructors = StepShake.class.getDeclaredConstructors();
        check.due("constructors", constructors.length, 1);
        check.due("what the constructor takes", constructors[0].getParameterCount(), 0);
        check.holds("the constructor is public", Modifier.isPublic(constructors[0].getModifiers()));
        int modifiers = StepShake.class.getModifiers();
        check.holds("the class is public and final", Modifier.isPublic(modifiers) && Modifier.isFinal(modifiers));
    }

    private static void constants() {
        check.due("NONE", StepShake.NONE, -1);
        check.due("BAD", StepShake.BAD, -2);
        check.due("NO", StepShake.NO, -3);
        check.due("FULL", StepShake.FULL, -4);
        check.due("SHORT", StepShake.SHORT, -5);
        check.due("FALSE", StepShake.FALSE, -6);
        Set<String> names = Set.of("NONE", "BAD", "NO", "FULL", "SHORT", "FALSE");
        for (Field field : StepShake.class.getDeclaredFields()) {
            check.holds(field + " is private or a constant of the document",
                    Modifier.isPrivate(field.getModifiers()) != names.contains(field.getName()));
        }
    }

    private static void classesInside() {
        Class<?>[] inside = StepShake.class.getDeclaredClasses();
        check.holds("there are at most twelve classes", inside.length + 1 <= 12);
        for (Class<?> one : inside) {
            check.holds(one + " is static", Modifier.isStatic(one.getModifiers()));
            check.holds(one + " is not public", !Modifier.isPublic(one.getModifiers()));
            int fields = 0;
            for (Field field : one.getDeclaredFields()) {
                boolean isStatic = Modifier.isStatic(field.getModifiers());
                check.holds(field + " is final if static", !isStatic || Modifier.isFinal(field.getModifiers()));
                fields += isStatic ? 0 : 1;
            }
            check.holds(one + " has at most twenty fields", fields <= 20);
            for (Method method : one.getDeclaredMethods()) {
                check.holds(method + " does not bear a public name",
                        METHODS.stream().noneMatch(m -> m.contains(" " + method.getName() + "(")));
                check.holds(method + " takes at most seven", method.getParameterCount() <= 7);
            }
        }
    }

    private static void forbiddenWords() throws IOException {
        String code = Files.readString(Path.of(SOURCE)).replaceAll("(?s)/\\*.*?\\*/", "").replaceAll("//.*", "");
        Matcher found = Pattern.compile("\\b(throw|throws|try|catch|synchronized|assert|import|package|native"
                + "|volatile|Exception|System\\.(?!arraycopy\\()\\w+)\\b|->|::").matcher(code);
        while (found.find()) {
            check.holds("the class does without " + found.group(), false);
        }
    }

    /**
     * The dearest calls, as many as an object is used for. A run's room has 7.3 million fields and elements, and none
     * of them is smaller than a byte.
     */
    private static void smallRoom() {
        if (!(ManagementFactory.getThreadMXBean() instanceof ThreadMXBean threads)) {
            return;
        }
        dearestCalls();
        long before = threads.getCurrentThreadAllocatedBytes();
        dearestCalls();
        long took = threads.getCurrentThreadAllocatedBytes() - before;
        check.holds("an object and its 512 calls take little room, not " + took, took < 7_300_000);
    }

    private static void dearestCalls() {
        StepShake x = Calls.pair(true, true, "eFS eEG");
        for (int i = 0; i < 55; i++) {
            x.feed(i, 8);
            x.write(0);
            x.read(1);
            x.write(1);
            x.read(0);
            x.key(i, i, 0);
            x.digest();
            x.again(i & 1);
            x.again(1 - (i & 1));
        }
    }
}
