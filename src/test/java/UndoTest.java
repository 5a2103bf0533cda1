/** The promises 20 to 22. */
final class UndoTest {
    private UndoTest() {
    }

    static void run() {
        Tests.run("20: undo: each kind of change", UndoTest::undoEach);
        Tests.run("21: save", UndoTest::save);
        Tests.run("22: restore", UndoTest::restore);
    }

    private static TwinPatience begun() {
        TwinPatience game = new TwinPatience();
        game.save(1);
        game.freeze(2);
        game.draw();
        return game;
    }

    private static void change(TwinPatience game, int kind) {
        switch (kind) {
            case 0 -> game.deal(77);
            case 1 -> game.move(10, 12);
            case 2 -> game.draw();
            case 3 -> game.freeze(3);
            case 4 -> game.play(60);
            case 5 -> {
                game.put('d');
                game.playAll();
            }
            default -> game.restore(1);
        }
    }

    private static void undoEach() {
        for (int kind = 0; kind <= 6; kind++) {
            TwinPatience game = begun();
            String before = Games.read(game);
            change(game, kind);
            Tests.holds("change " + kind + " changes", !Games.read(game).equals(before));
            Tests.due("count(8)", game.count(8), 3);
            Tests.due("undo()", game.undo(), 2);
            Games.same("change " + kind + " is undone", game, before);
        }
    }

    private static void save() {
        TwinPatience game = Games.played(3, 40);
        game.freeze(5);
        String first = Games.read(game);
        int draws = game.count(2);
        Tests.due("save(0)", game.save(0), draws);
        game.play(20);
        Tests.due("save(1)", game.save(1), game.count(2));
        Tests.due("it is no change", game.count(8), 4);
        game.play(20);
        Tests.due("restore(0)", game.restore(0), draws);
        Games.same("restore(0)", game, first);
        game.draw();
        Tests.due("save(0) overwrites", game.save(0), draws + 1);
        game.deal(1);
        Tests.due("restore(0)", game.restore(0), draws + 1);
    }

    private static void restore() {
        TwinPatience game = Games.played(8, 55);
        game.freeze(0);
        Games.write(game, "d,");
        game.save(1);
        String saved = Games.read(game);
        int draws = game.count(2);
        game.draw();
        game.draw();
        Tests.due("restore(1)", game.restore(1), draws);
        Games.same("restored", game, saved);
        Tests.due("count(8)", game.count(8), 6);
        game.draw();
        Tests.due("the slot keeps it", game.restore(1), draws);
        game.put('d');
        game.draw();
        game.restore(1);
        Tests.due("the pad stays", game.count(7), 3);
        Tests.due("undo()", game.undo(), 5);
        Tests.due("count(2)", game.count(2), draws + 1);
    }
}
