/** Counts the tests that passed and that failed; a test is a method that calls due(). */
final class Tests {
    private static int passed = 0;
    private static int failed = 0;
    private static int wrong = 0;

    private Tests() {
    }

    static void run(String name, Runnable test) {
        wrong = 0;
        try {
            test.run();
        } catch (RuntimeException | Error thrown) {
            wrong++;
            thrown.printStackTrace(System.out);
        }
        if (wrong == 0) {
            passed++;
        } else {
            failed++;
            System.out.println("FAILED: " + name);
        }
    }

    static void due(String call, long got, long want) {
        if (got != want) {
            wrong++;
            // A broken rule goes wrong thousands of times in a long run.
            if (wrong <= 10) {
                System.out.println("  " + call + " answered " + got + ", due is " + want);
            }
        }
    }

    static void holds(String what, boolean itDoes) {
        due(what, itDoes ? 1 : 0, 1);
    }

    /** Prints the closing line; true if no test failed. */
    static boolean close() {
        System.out.println(passed + " passed, " + failed + " failed");
        return failed == 0 && passed > 0;
    }
}
