import java.lang.reflect.Method;

/**
 * Runs the main method of the class named first, and ends it with exit code 1 if it
 * does not end by itself: a broken loop in the driver fails a test instead of hanging it.
 */
final class WithLimit {
    private static final long MILLISECONDS = 60_000;

    private WithLimit() {
    }

    public static void main(String[] args) throws ReflectiveOperationException {
        Thread watch = new Thread(() -> endLater(args[0]));
        watch.setDaemon(true);
        watch.start();
        Method main = Class.forName(args[0]).getDeclaredMethod("main", String[].class);
        main.setAccessible(true);
        main.invoke(null, (Object) new String[0]);
    }

    private static void endLater(String name) {
        try {
            Thread.sleep(MILLISECONDS);
        } catch (InterruptedException unexpected) {
            Thread.currentThread().interrupt();
        }
        System.out.println(name + " did not end");
        Runtime.getRuntime().halt(1);
    }
}
