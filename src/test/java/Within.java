import java.lang.reflect.Method;

/** Runs the main method of the test that is named. Every call must end, so a test that goes on for too long fails. */
public final class Within {
    private static final long MOST_SECONDS = 120;

    private Within() {
    }

    public static void main(String[] args) throws ReflectiveOperationException {
        Thread watch = new Thread(() -> failLater(args[0]));
        watch.setDaemon(true);
        watch.start();
        Method test = Class.forName(args[0]).getDeclaredMethod("main", String[].class);
        test.setAccessible(true);
        test.invoke(null, (Object) new String[0]);
    }

    private static void failLater(String test) {
        try {
            Thread.sleep(1000 * MOST_SECONDS);
        } catch (InterruptedException e) {
            return;
        }
        System.out.println(test + " has not ended within " + MOST_SECONDS + " seconds");
        Runtime.getRuntime().halt(1);
    }
}
