/** Runs every test of the project; the exit code is 1 if one failed. */
public final class AllTests {
    private static final long MOST_MILLISECONDS = 10 * 60 * 1000;

    private AllTests() {
    }

    /** The arguments are the paths of the class's source and of README.md. */
    public static void main(String[] args) {
        failIfItDoesNotEnd();
        FaceTest.run();
        LanguageTest.run(args[0]);
        ReadmeTest.run(args[1]);
        ChangesTest.run();
        ReadingsTest.run();
        WhatIfTest.run();
        TextsTest.run();
        UndoTest.run();
        ChangeBoundsTest.run();
        MoveBoundsTest.run();
        ReadingBoundsTest.run();
        WhatIfBoundsTest.run();
        TextBoundsTest.run();
        HistoryBoundsTest.run();
        FullPilesTest.run();
        RandomRunsTest.run();
        if (!Tests.close()) {
            System.exit(1);
        }
    }

    /** A call that never returns is a fault, too. */
    private static void failIfItDoesNotEnd() {
        Thread watch = new Thread(() -> {
            try {
                Thread.sleep(MOST_MILLISECONDS);
            } catch (InterruptedException thrown) {
                return;
            }
            System.out.println("FAILED: the tests do not end");
            Runtime.getRuntime().halt(1);
        });
        watch.setDaemon(true);
        watch.start();
    }
}
