/** Compares answers with those that are due, and ends a test with exit code 1 if one was wrong. */
final class Check {
    /** A class that is broken throughout would fill the log with the same news. */
    private static final int LINES = 200;

    private static int compared = 0;
    private static int wrong = 0;

    private Check() {
    }

    static void due(String call, long got, long want) {
        compared++;
        if (got != want) {
            fail(call + " answered " + got + ", due is " + want);
        }
    }

    static void due(String call, boolean got, boolean want) {
        due(call, got ? 1 : 0, want ? 1 : 0);
    }

    /** Runs the test of one sentence of the document, and names the sentence if the test fails. */
    static void sentence(String words, Runnable test) {
        int comparedBefore = compared;
        int wrongBefore = wrong;
        try {
            test.run();
        } catch (RuntimeException thrown) {
            fail("a call threw " + thrown);
        }
        if (compared == comparedBefore) {
            fail("nothing was compared");
        }
        if (wrong != wrongBefore) {
            System.out.println("BROKEN: \"" + words + "\"");
        }
    }

    static void end() {
        if (compared == 0) {
            fail("nothing was compared");
        }
        if (wrong > LINES) {
            System.out.println(wrong + " answers were wrong in all");
        }
        if (wrong != 0) {
            System.exit(1);
        }
    }

    private static void fail(String line) {
        wrong++;
        if (wrong <= LINES) {
            System.out.println(line);
        }
    }
}
