/** Compares answers with those that are due, and ends a test with exit code 1 if one was wrong. */
final class Check {
    private static int compared = 0;
    private static int wrong = 0;

    private Check() {
    }

    static void due(String call, long got, long want) {
        compared++;
        if (got != want) {
            wrong++;
            System.out.println(call + " answered " + got + ", due is " + want);
        }
    }

    static void due(String call, boolean got, boolean want) {
        due(call, got ? 1 : 0, want ? 1 : 0);
    }

    static void end() {
        if (compared == 0) {
            System.out.println("nothing was compared");
        }
        if (wrong != 0 || compared == 0) {
            System.exit(1);
        }
    }
}
