/** Runs every test of the project; the exit code is 1 if one failed. */
public final class AllTests {
    private static final long MOST_MILLISECONDS = 10 * 60 * 1000;

    private AllTests() {
    }

    /** The argument is the path of the class's source. */
    public static void main(String[] args) {
        failIfItDoesNotEnd();
        FaceTest.run(args[0]);
        ChangesTest.run();
        ReadingsTest.run();
        WhatIfTest.run();
        TextsTest.run();
        UndoTest.run();
        ChangeBoundsTest.run();
        MoveBoundsTest.run();
        ReadingBoundsTest.run();
        WhatIfBoundsTest.run();
        TextBoundsTest.run();
        HistoryBoundsTest.run();
        RandomRunsTest.run();
        if (!Tests.close()) {
            System.exit(1);
        }
    }

    /** A call that never returns is a fault, too. */
    private static void failIfItDoesNotEnd() {
        Thread watch = new Thread(() -> {
            try {
                Thread.sleep(MOST_MILLISECONDS);
            } catch (InterruptedException thrown) {
                return;
            }
            System.out.println("FAILED: the tests do not end");
            Runtime.getRuntime().halt(1);
        });
        watch.setDaemon(true);
        watch.start();
    }
}
