/** The promises 20 to 22. */
final class UndoTest {
    private UndoTest() {
    }

    static void run() {
        Tests.run("20: undo: each kind of change", UndoTest::undoEach);
        Tests.run("20: undo: six states at most", UndoTest::undoSix);
        Tests.run("20: undo: the pad, the slots and the history stay", UndoTest::undoKeeps);
        Tests.run("20: undo: errors record nothing", UndoTest::undoErrors);
        Tests.run("21: save", UndoTest::save);
        Tests.run("21: save: wrong slots", UndoTest::saveWrong);
        Tests.run("22: restore", UndoTest::restore);
        Tests.run("22: restore: errors", UndoTest::restoreErrors);
    }

    private static TwinPatience begun() {
        TwinPatience game = new TwinPatience();
        game.save(1);
        game.freeze(2);
        game.draw();
        return game;
    }

    private static void change(TwinPatience game, int kind) {
        switch (kind) {
            case 0 -> game.deal(77);
            case 1 -> game.move(10, 12);
            case 2 -> game.draw();
            case 3 -> game.freeze(3);
            case 4 -> game.play(60);
            case 5 -> {
                game.put('d');
                game.playAll();
            }
            default -> game.restore(1);
        }
    }

    private static void undoEach() {
        for (int kind = 0; kind <= 6; kind++) {
            TwinPatience game = begun();
            String before = Games.read(game);
            change(game, kind);
            Tests.holds("change " + kind + " changes", !Games.read(game).equals(before));
            Tests.due("count(8)", game.count(8), 3);
            Tests.due("undo()", game.undo(), 2);
            Games.same("change " + kind + " is undone", game, before);
        }
    }

    private static void undoSix() {
        TwinPatience game = new TwinPatience();
        for (int i = 1; i <= 9; i++) {
            game.draw();
            Tests.due("count(8)", game.count(8), Math.min(i, 6));
        }
        for (int i = 5; i >= 0; i--) {
            Tests.due("undo()", game.undo(), i);
            Tests.due("count(2)", game.count(2), 3 + i);
        }
        Tests.due("undo()", game.undo(), -5);
        Tests.due("count(2)", game.count(2), 3);
        game.draw();
        Tests.due("undo()", game.undo(), 0);
        Tests.due("count(2)", game.count(2), 3);
        game.draw();
        game.draw();
        game.undo();
        game.draw();
        Tests.due("undo()", game.undo(), 1);
        Tests.due("undo()", game.undo(), 0);
        Tests.due("undo()", game.undo(), -5);
    }

    private static void undoKeeps() {
        TwinPatience game = new TwinPatience();
        game.put('d');
        game.draw();
        game.put(',');
        game.save(0);
        Tests.due("undo()", game.undo(), 0);
        Tests.due("the pad stays", game.count(7), 2);
        Tests.due("the slot stays", game.restore(0), 1);
        Tests.due("count(8)", game.count(8), 1);
        game.put('d');
        game.playAll();
        game.undo();
        Tests.due("a played pad stays empty", game.count(7), 0);
        Tests.due("count(2)", game.count(2), 1);
    }

    private static void undoErrors() {
        TwinPatience game = new TwinPatience();
        game.freeze(0);
        game.deal(-1);
        game.move(22, 0);
        game.move(0, 1);
        game.freeze(8);
        game.freeze(0);
        game.play(0);
        game.playAll();
        game.restore(2);
        game.restore(0);
        game.put(0);
        game.save(5);
        Tests.due("count(8)", game.count(8), 1);
        game.put('d');
        game.wipe();
        game.save(0);
        Tests.due("what is no change records nothing", game.count(8), 1);
        Tests.due("undo()", game.undo(), 0);
        TwinPatience over = Games.drawnOut();
        over.play(5);
        over.undo();
        over.draw();
        over.freeze(1);
        Tests.due("count(8)", over.count(8), 5);
    }

    private static void save() {
        TwinPatience game = Games.played(3, 40);
        game.freeze(5);
        String first = Games.read(game);
        int draws = game.count(2);
        Tests.due("save(0)", game.save(0), draws);
        game.play(20);
        Tests.due("save(1)", game.save(1), game.count(2));
        Tests.due("it is no change", game.count(8), 4);
        game.play(20);
        Tests.due("restore(0)", game.restore(0), draws);
        Games.same("restore(0)", game, first);
        game.draw();
        Tests.due("save(0) overwrites", game.save(0), draws + 1);
        game.deal(1);
        Tests.due("restore(0)", game.restore(0), draws + 1);
    }

    private static void saveWrong() {
        TwinPatience game = new TwinPatience();
        for (int never : Games.NEVER) {
            Tests.due("save(" + never + ")", game.save(never), -2);
        }
        Tests.due("save(2)", game.save(2), -2);
        Tests.due("restore(0)", game.restore(0), -5);
        Tests.due("restore(1)", game.restore(1), -5);
    }

    private static void restore() {
        TwinPatience game = Games.played(8, 55);
        game.freeze(0);
        Games.write(game, "d,");
        game.save(1);
        String saved = Games.read(game);
        int draws = game.count(2);
        game.draw();
        game.draw();
        Tests.due("restore(1)", game.restore(1), draws);
        Games.same("restored", game, saved);
        Tests.due("count(8)", game.count(8), 6);
        game.draw();
        Tests.due("the slot keeps it", game.restore(1), draws);
        game.put('d');
        game.draw();
        game.restore(1);
        Tests.due("the pad stays", game.count(7), 3);
        Tests.due("undo()", game.undo(), 5);
        Tests.due("count(2)", game.count(2), draws + 1);
    }

    private static void restoreErrors() {
        TwinPatience game = new TwinPatience();
        for (int never : Games.NEVER) {
            Tests.due("restore(" + never + ")", game.restore(never), -2);
        }
        Tests.due("restore(2)", game.restore(2), -2);
        Tests.due("restore(0)", game.restore(0), -5);
        Tests.due("restore(1)", game.restore(1), -5);
        game.save(0);
        Tests.due("the other slot", game.restore(1), -5);
        Tests.due("count(8)", game.count(8), 0);
        Tests.due("restore(0)", game.restore(0), 0);
        Tests.due("count(8)", game.count(8), 1);
    }
}
