import java.lang.reflect.InvocationTargetException;

/** Runs the test with the name that is given, and ends it with 1 if a call in it does not end. */
public final class Timed {
    private static final int SECONDS = 120;

    private Timed() {
    }

    public static void main(String[] args) throws ReflectiveOperationException {
        Thread watch = new Thread(() -> endLate(args[0]));
        watch.setDaemon(true);
        watch.start();
        try {
            Class.forName(args[0]).getMethod("main", String[].class).invoke(null, (Object) new String[0]);
        } catch (InvocationTargetException e) {
            e.getCause().printStackTrace();
            System.exit(1);
        }
    }

    private static void endLate(String test) {
        try {
            Thread.sleep(1000L * SECONDS);
        } catch (InterruptedException e) {
            return;
        }
        System.out.println(test + " has not ended in " + SECONDS + " seconds");
        Runtime.getRuntime().halt(1);
    }
}
