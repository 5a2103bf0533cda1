/** Runs every test of the project; the exit code is 1 if one failed. */
public final class AllTests {
    private AllTests() {
    }

    /** The argument is the path of the class's source. */
    public static void main(String[] args) {
        FaceTest.run(args[0]);
        ChangesTest.run();
        ReadingsTest.run();
        WhatIfTest.run();
        TextsTest.run();
        UndoTest.run();
        ChangeBoundsTest.run();
        MoveBoundsTest.run();
        ReadingBoundsTest.run();
        WhatIfBoundsTest.run();
        TextBoundsTest.run();
        HistoryBoundsTest.run();
        RandomRunsTest.run();
        if (!Tests.close()) {
            System.exit(1);
        }
    }
}
