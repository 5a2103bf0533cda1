/** The promises 20 to 22, a boundary case a test. */
final class HistoryBoundsTest {
    private HistoryBoundsTest() {
    }

    static void run() {
        runUndo();
        runRecords();
        runSave();
        runRestore();
    }

    private static void runUndo() {
        Tests.run("20: nothing to undo at first", HistoryBoundsTest::undoNothing);
        Tests.run("20: nothing to undo, when all is undone", HistoryBoundsTest::undoAll);
        Tests.run("20: one change", HistoryBoundsTest::undoOne);
        Tests.run("20: six changes, the most", HistoryBoundsTest::undoSix);
        Tests.run("20: of seven changes the oldest is dropped", HistoryBoundsTest::undoSeven);
        Tests.run("20: of any number of changes six are kept", HistoryBoundsTest::undoMany);
        Tests.run("20: six are kept up to the 512th call of an object", HistoryBoundsTest::undoLastCalls);
        Tests.run("20: a change after an undo takes the place of what was undone", HistoryBoundsTest::undoAndChange);
        Tests.run("20: undos and changes in turn with a full history", HistoryBoundsTest::undoInTurn);
        Tests.run("20: the end by the 200th draw is undone", HistoryBoundsTest::undoTheLastDraw);
        Tests.run("20: the end by a side's last card is undone, with its 10", HistoryBoundsTest::undoTheLastCard);
        Tests.run("20: the thaw of a house is undone", HistoryBoundsTest::undoThaw);
        Tests.run("20: a hand that was turned over is turned back", HistoryBoundsTest::undoTurnOver);
        Tests.run("20: a draw without a card is undone", HistoryBoundsTest::undoNoCard);
        Tests.run("20: the pad is not undone", HistoryBoundsTest::undoPad);
        Tests.run("20: the slots are not undone", HistoryBoundsTest::undoSlots);
    }

    private static void runRecords() {
        Tests.run("20: each change records one state", HistoryBoundsTest::recordsOne);
        Tests.run("20: a change that makes nothing different is recorded", HistoryBoundsTest::recordsTheSame);
        Tests.run("20: the steps of a text and of play() record nothing", HistoryBoundsTest::recordsNoSteps);
        Tests.run("20: what is no change records nothing", HistoryBoundsTest::recordsNoReading);
        Tests.run("20: what is refused records nothing in an empty history", HistoryBoundsTest::recordsNothingRefused);
        Tests.run("20: what is refused drops nothing from a full history", HistoryBoundsTest::dropsNothingRefused);
        Tests.run("20: what is refused after the end records nothing", HistoryBoundsTest::recordsNothingAfterTheEnd);
    }

    private static void runSave() {
        Tests.run("21: there is no slot below 0", () -> saveRefused(-1, Bounds.LEAST));
        Tests.run("21: there is no slot above 1", () -> saveRefused(2, Bounds.GREATEST));
        Tests.run("21: no such slot is refused after the end, too", HistoryBoundsTest::saveRefusedAfterTheEnd);
        Tests.run("21: both slots, each for itself", HistoryBoundsTest::saveBoth);
        Tests.run("21: no draws, and 200", HistoryBoundsTest::saveDraws);
        Tests.run("21: it overwrites what was saved there", HistoryBoundsTest::saveOverwrites);
        Tests.run("21: later changes do not reach what was saved", HistoryBoundsTest::saveKeeps);
        Tests.run("21: the pad and the history are not saved", HistoryBoundsTest::saveNotAll);
        Tests.run("21: what is there stays as it is", HistoryBoundsTest::saveChangesNothing);
    }

    private static void runRestore() {
        Tests.run("22: there is no slot below 0", () -> restoreRefused(-1, Bounds.LEAST));
        Tests.run("22: there is no slot above 1", () -> restoreRefused(2, Bounds.GREATEST));
        Tests.run("22: no such slot goes before nothing saved", HistoryBoundsTest::restoreNoSuchFirst);
        Tests.run("22: nothing was saved in the slot 0", () -> restoreUnsaved(0));
        Tests.run("22: nothing was saved in the slot 1", () -> restoreUnsaved(1));
        Tests.run("22: a refused save saves nothing", HistoryBoundsTest::restoreAfterRefused);
        Tests.run("22: the slot keeps what was saved", HistoryBoundsTest::restoreTwice);
        Tests.run("22: it is a change, also in a full history", HistoryBoundsTest::restoreFullHistory);
        Tests.run("22: it ends a game that was over, and begins again one that was not", HistoryBoundsTest::restoreOver);
        Tests.run("22: the draws that were made then, not now", HistoryBoundsTest::restoreDraws);
        Tests.run("22: the pad stays", HistoryBoundsTest::restorePad);
    }

    private static TwinPatience drawn(int draws) {
        TwinPatience game = new TwinPatience();
        for (int i = 0; i < draws; i++) {
            game.draw();
        }
        return game;
    }

    // ---- 20

    private static void undoNothing() {
        Bounds.unchanged("undo()", TwinPatience::new, TwinPatience::undo, Bounds.NOT_POSSIBLE);
    }

    private static void undoAll() {
        TwinPatience game = drawn(3);
        Tests.due("undo()", game.undo(), 2);
        Tests.due("undo()", game.undo(), 1);
        Tests.due("undo()", game.undo(), 0);
        Tests.due("undo()", game.undo(), Bounds.NOT_POSSIBLE);
        Tests.due("undo()", game.undo(), Bounds.NOT_POSSIBLE);
        Tests.due("count(8)", game.count(8), 0);
        Games.same("the beginning", game, Games.read(new TwinPatience()));
    }

    private static void undoOne() {
        TwinPatience game = drawn(1);
        Tests.due("count(8)", game.count(8), 1);
        Tests.due("undo()", game.undo(), 0);
        Games.same("the beginning", game, Games.read(new TwinPatience()));
    }

    private static void undoes(TwinPatience game, int draws) {
        for (int left = 5; left >= 0; left--) {
            Tests.due("undo()", game.undo(), left);
            draws--;
            Tests.due("count(2)", game.count(2), draws);
        }
        Tests.due("undo()", game.undo(), Bounds.NOT_POSSIBLE);
        Tests.due("count(2)", game.count(2), draws);
    }

    private static void undoSix() {
        TwinPatience game = drawn(6);
        Tests.due("count(8)", game.count(8), 6);
        undoes(game, 6);
    }

    private static void undoSeven() {
        TwinPatience game = drawn(7);
        Tests.due("count(8)", game.count(8), 6);
        undoes(game, 7);
        Games.same("the state before the second change", game, Games.read(drawn(1)));
    }

    private static void undoMany() {
        for (int draws = 8; draws <= 40; draws++) {
            undoes(drawn(draws), draws);
        }
    }

    private static void undoLastCalls() {
        TwinPatience game = new TwinPatience();
        for (int number = 0; number < 503; number++) {
            game.deal(number);
        }
        Tests.due("deal(2147483647)", game.deal(Bounds.GREATEST), 40);
        game.draw();
        Tests.due("pile(2, 1)", game.pile(2, 1), 17);
        for (int left = 5; left >= 0; left--) {
            Tests.due("undo()", game.undo(), left);
        }
    }

    private static void undoAndChange() {
        TwinPatience game = drawn(3);
        game.undo();
        game.freeze(5);
        Tests.due("count(8)", game.count(8), 3);
        Tests.due("undo()", game.undo(), 2);
        Tests.due("count(2)", game.count(2), 2);
        Tests.due("count(6)", game.count(6), 0);
        Tests.due("undo()", game.undo(), 1);
        Tests.due("count(2)", game.count(2), 1);
    }

    private static void undoInTurn() {
        TwinPatience game = drawn(9);
        for (int i = 0; i < 10; i++) {
            Tests.due("undo()", game.undo(), 5);
            Tests.due("undo()", game.undo(), 4);
            game.draw();
            game.draw();
            Tests.due("count(8)", game.count(8), 6);
            Tests.due("count(2)", game.count(2), 9);
        }
        undoes(game, 9);
    }

    private static void undoTheLastDraw() {
        TwinPatience game = Games.drawnOut();
        int card = game.pile(3, 1);
        Tests.due("undo()", game.undo(), 5);
        Tests.due("count(1)", game.count(1), 0);
        Tests.due("count(0)", game.count(0), 1);
        Tests.due("draw()", game.draw(), card);
        Tests.due("count(1)", game.count(1), 1);
    }

    private static void undoTheLastCard() {
        for (int side = 0; side <= 1; side++) {
            TwinPatience game = Games.lastOfWaste(side);
            String before = Games.read(game);
            int points = game.side(side, 0);
            game.move(2 + side, 6);
            Tests.due("undo()", game.undo(), 5);
            Tests.due("side(" + side + ", 0)", game.side(side, 0), points);
            Tests.due("count(1)", game.count(1), 0);
            Games.same("undone", game, before);
        }
    }

    private static void undoThaw() {
        TwinPatience game = new TwinPatience();
        game.freeze(0);
        game.draw();
        game.draw();
        game.draw();
        for (int left = 0; left <= 3; left++) {
            Tests.due("pile(6, 2)", game.pile(6, 2), left);
            game.undo();
        }
        Tests.due("pile(6, 2)", game.pile(6, 2), 0);
        Tests.due("side(0, 1)", game.side(0, 1), 2);
    }

    private static void undoTurnOver() {
        TwinPatience game = drawn(70);
        game.draw();
        game.undo();
        Games.same("before it was turned over", game, Games.read(drawn(70)));
    }

    private static void undoNoCard() {
        TwinPatience game = Games.without(0);
        int draws = game.count(2);
        game.draw();
        Tests.due("undo()", game.undo(), 5);
        Tests.due("count(2)", game.count(2), draws);
        Tests.due("count(0)", game.count(0), 0);
    }

    private static void undoPad() {
        TwinPatience game = new TwinPatience();
        game.put('f');
        game.draw();
        game.put('1');
        Tests.due("undo()", game.undo(), 0);
        Tests.due("count(7)", game.count(7), 2);
        Tests.due("playAll()", game.playAll(), 1);
        Tests.due("undo()", game.undo(), 0);
        Tests.due("count(7) of a pad that was played", game.count(7), 0);
        game.draw();
        game.put('d');
        game.wipe();
        game.undo();
        Tests.due("count(7) of a pad that was wiped", game.count(7), 0);
    }

    private static void undoSlots() {
        TwinPatience game = drawn(1);
        game.save(0);
        game.draw();
        game.save(0);
        game.save(1);
        game.undo();
        game.undo();
        Tests.due("restore(0)", game.restore(0), 2);
        Tests.due("restore(1)", game.restore(1), 2);
        game.undo();
        game.undo();
        Tests.due("count(2)", game.count(2), 0);
        Tests.due("restore(0)", game.restore(0), 2);
    }

    private static void recordsOne() {
        TwinPatience game = new TwinPatience();
        game.save(0);
        Games.write(game, "d,d");
        Tests.due("deal(3)", game.deal(3), 0);
        Tests.due("count(8)", game.count(8), 1);
        Tests.due("move(0, 14)", game.move(0, 14), 3);
        Tests.due("count(8)", game.count(8), 2);
        Tests.holds("draw()", game.draw() >= 0);
        Tests.due("count(8)", game.count(8), 3);
        Tests.due("freeze(2)", game.freeze(2), 1);
        Tests.due("count(8)", game.count(8), 4);
        Tests.due("playAll()", game.playAll(), 2);
        Tests.due("count(8)", game.count(8), 5);
        Tests.due("restore(0)", game.restore(0), 0);
        Tests.due("count(8)", game.count(8), 6);
        for (int left = 5; left >= 0; left--) {
            Tests.due("undo()", game.undo(), left);
        }
        Tests.due("play(60)", game.play(60), 60);
        Tests.due("count(8)", game.count(8), 1);
    }

    private static void recordsTheSame() {
        TwinPatience game = new TwinPatience();
        String before = Games.read(game);
        game.save(1);
        Tests.due("deal(1)", game.deal(1), 44);
        Tests.due("count(8)", game.count(8), 1);
        Tests.due("restore(1)", game.restore(1), 0);
        Tests.due("count(8)", game.count(8), 2);
        Games.write(game, "0>0");
        Tests.due("playAll()", game.playAll(), 0);
        Tests.due("count(8)", game.count(8), 3);
        Games.same("nothing is different", game, before);
        TwinPatience over = Bounds.drawnOut();
        over.undo();
        over.undo();
        over.play(60);
        over.play(60);
        Tests.due("play(60)", over.play(60), 0);
        Tests.due("count(8)", over.count(8), 6);
        over.undo();
        Tests.due("count(1)", over.count(1), 1);
        over.undo();
        Tests.due("count(1)", over.count(1), 0);
    }

    private static void recordsNoSteps() {
        TwinPatience game = new TwinPatience();
        game.play(40);
        Games.write(game, "d,d,d,d,d,d,d,d,d,d");
        game.playAll();
        Tests.due("count(8)", game.count(8), 2);
        game.ifPlayed(200, 0);
        Tests.due("undo()", game.undo(), 1);
        Tests.due("undo()", game.undo(), 0);
        Tests.due("count(2)", game.count(2), 0);
        Tests.due("count(3)", game.count(3), 0);
    }

    private static void recordsNoReading() {
        TwinPatience game = drawn(2);
        game.pile(0, 0);
        game.card(0, 0);
        game.where(0, 0);
        game.side(0, 0);
        game.count(0);
        game.ofMove(0, 0);
        game.best();
        game.ifPlayed(200, 0);
        game.buried(0);
        game.put('d');
        game.fault();
        game.wipe();
        game.save(0);
        game.save(1);
        Tests.due("count(8)", game.count(8), 2);
    }

    private static void refuseAll(TwinPatience game) {
        int[] answers = {game.deal(-1), game.move(-1, 0), game.move(0, 22), game.move(0, 0), game.freeze(-1), game.freeze(8),
            game.play(0), game.play(61), game.playAll(), game.save(2), game.restore(-1), game.restore(2), game.put(0)};
        int[] due = {-2, -1, -1, -5, -1, -1, -2, -2, -3, -2, -2, -2, -2};
        for (int i = 0; i < due.length; i++) {
            Tests.due("refused call " + i, answers[i], due[i]);
        }
    }

    private static void recordsNothingRefused() {
        TwinPatience game = new TwinPatience();
        refuseAll(game);
        Tests.due("restore(0)", game.restore(0), Bounds.NOT_POSSIBLE);
        Tests.due("count(8)", game.count(8), 0);
        Tests.due("undo()", game.undo(), Bounds.NOT_POSSIBLE);
    }

    private static void dropsNothingRefused() {
        TwinPatience game = drawn(9);
        game.freeze(7);
        game.freeze(6);
        Tests.due("freeze(5)", game.freeze(5), Bounds.NOT_POSSIBLE);
        refuseAll(game);
        game.undo();
        game.undo();
        game.draw();
        game.draw();
        refuseAll(game);
        undoes(game, 11);
    }

    private static void recordsNothingAfterTheEnd() {
        TwinPatience game = Games.drawnOut();
        Tests.due("draw()", game.draw(), Bounds.NOT_POSSIBLE);
        Tests.due("move(10, 12)", game.move(10, 12), Bounds.NOT_POSSIBLE);
        Tests.due("freeze(0)", game.freeze(0), Bounds.NOT_POSSIBLE);
        undoes(game, 200);
    }

    // ---- 21

    private static void saveRefused(int... slots) {
        for (int slot : slots) {
            Bounds.unchanged("save(" + slot + ")", Bounds::begun, game -> game.save(slot), Bounds.BAD_VALUE);
        }
    }

    private static void saveRefusedAfterTheEnd() {
        Bounds.unchanged("save(2)", Bounds::drawnOut, game -> game.save(2), Bounds.BAD_VALUE);
        Bounds.unchanged("save(-1)", Bounds::drawnOut, game -> game.save(-1), Bounds.BAD_VALUE);
    }

    private static void saveBoth() {
        TwinPatience game = drawn(1);
        Tests.due("save(0)", game.save(0), 1);
        game.draw();
        Tests.due("save(1)", game.save(1), 2);
        game.draw();
        Tests.due("restore(0)", game.restore(0), 1);
        Tests.due("count(2)", game.count(2), 1);
        Tests.due("restore(1)", game.restore(1), 2);
        Tests.due("count(2)", game.count(2), 2);
    }

    private static void saveDraws() {
        Tests.due("save(0)", new TwinPatience().save(0), 0);
        Tests.due("save(1)", Games.drawnOut().save(1), 200);
        Tests.due("save(0)", Bounds.drawnOut().save(0), 200);
    }

    private static void saveOverwrites() {
        for (int slot = 0; slot <= 1; slot++) {
            TwinPatience game = drawn(5);
            game.freeze(3);
            game.save(slot);
            game.deal(9);
            game.save(1 - slot);
            game.draw();
            Tests.due("save(" + slot + ")", game.save(slot), 1);
            game.deal(4);
            Tests.due("restore(" + slot + ")", game.restore(slot), 1);
            Tests.due("count(6)", game.count(6), 0);
            Tests.due("the other slot", game.restore(1 - slot), 0);
            Tests.due("its stock", game.pile(0, 1), new Model().deal(9));
        }
    }

    private static void saveKeeps() {
        TwinPatience game = Games.played(5, 77);
        game.freeze(2);
        game.save(0);
        String saved = Games.read(game);
        game.freeze(3);
        game.play(60);
        game.draw();
        game.deal(8);
        game.restore(0);
        Games.same("what was saved", game, saved);
    }

    private static void saveNotAll() {
        TwinPatience game = drawn(2);
        Games.write(game, "d,d");
        game.save(0);
        game.wipe();
        game.undo();
        game.undo();
        Tests.due("restore(0)", game.restore(0), 2);
        Tests.due("count(7)", game.count(7), 0);
        Tests.due("count(8)", game.count(8), 1);
        Tests.due("undo()", game.undo(), 0);
        Tests.due("count(2)", game.count(2), 0);
    }

    private static void saveChangesNothing() {
        TwinPatience game = Bounds.begun();
        String before = Games.read(game);
        game.save(0);
        game.save(1);
        Games.same("what is there", game, before);
        Tests.due("count(8)", game.count(8), 6);
    }

    // ---- 22

    private static void restoreRefused(int... slots) {
        for (int slot : slots) {
            Bounds.unchanged("restore(" + slot + ")", Bounds::begun, game -> game.restore(slot), Bounds.BAD_VALUE);
        }
    }

    private static void restoreNoSuchFirst() {
        Bounds.unchanged("restore(2)", TwinPatience::new, game -> game.restore(2), Bounds.BAD_VALUE);
        Bounds.unchanged("restore(-1)", TwinPatience::new, game -> game.restore(-1), Bounds.BAD_VALUE);
    }

    private static void restoreUnsaved(int slot) {
        Bounds.unchanged("restore(" + slot + ")", () -> drawn(7), game -> game.restore(slot), Bounds.NOT_POSSIBLE);
        TwinPatience game = drawn(2);
        game.save(1 - slot);
        game.draw();
        Tests.due("restore(" + slot + ")", game.restore(slot), Bounds.NOT_POSSIBLE);
        Tests.due("count(2)", game.count(2), 3);
        Tests.due("count(8)", game.count(8), 3);
        game.deal(2);
        game.undo();
        Tests.due("restore(" + slot + ")", game.restore(slot), Bounds.NOT_POSSIBLE);
    }

    private static void restoreAfterRefused() {
        TwinPatience game = drawn(1);
        game.save(-1);
        game.save(2);
        Tests.due("restore(0)", game.restore(0), Bounds.NOT_POSSIBLE);
        Tests.due("restore(1)", game.restore(1), Bounds.NOT_POSSIBLE);
    }

    private static void restoreTwice() {
        TwinPatience game = drawn(1);
        game.save(0);
        for (int i = 0; i < 3; i++) {
            Tests.due("restore(0)", game.restore(0), 1);
            Tests.due("draw()", game.draw(), 88);
            game.freeze(0);
            Tests.due("freezes left", game.side(0, 1), 1);
        }
        Tests.due("restore(0)", game.restore(0), 1);
        Tests.due("restore(0)", game.restore(0), 1);
        Tests.due("count(6)", game.count(6), 0);
    }

    private static void restoreFullHistory() {
        TwinPatience game = drawn(3);
        game.save(1);
        for (int i = 0; i < 5; i++) {
            game.draw();
        }
        Tests.due("restore(1)", game.restore(1), 3);
        Tests.due("count(8)", game.count(8), 6);
        Tests.due("undo()", game.undo(), 5);
        for (int draws = 8; draws >= 4; draws--) {
            Tests.due("count(2)", game.count(2), draws);
            game.undo();
        }
        Tests.due("count(2)", game.count(2), 3);
        Tests.due("undo()", game.undo(), Bounds.NOT_POSSIBLE);
    }

    private static void restoreOver() {
        TwinPatience game = Games.lastOfWaste(0);
        game.save(0);
        game.move(2, 6);
        game.save(1);
        game.restore(0);
        Tests.due("count(1)", game.count(1), 0);
        Tests.due("side(0, 0)", game.side(0, 0), 99);
        game.restore(1);
        Tests.due("count(1)", game.count(1), 1);
        Tests.due("side(0, 0)", game.side(0, 0), 109);
        Tests.due("draw()", game.draw(), Bounds.NOT_POSSIBLE);
        game.restore(0);
        Tests.holds("draw()", game.draw() >= 0);
    }

    private static void restoreDraws() {
        TwinPatience game = new TwinPatience();
        game.save(0);
        game.draw();
        Tests.due("restore(0)", game.restore(0), 0);
        TwinPatience over = Games.drawnOut();
        over.save(1);
        over.deal(1);
        Tests.due("restore(1)", over.restore(1), 200);
    }

    private static void restorePad() {
        TwinPatience game = new TwinPatience();
        Games.write(game, "d,d");
        game.save(0);
        Games.write(game, ",f1");
        game.restore(0);
        Tests.due("count(7)", game.count(7), 6);
        Tests.due("fault()", game.fault(), Bounds.NONE);
        Tests.due("playAll()", game.playAll(), 3);
        game.restore(0);
        Tests.due("count(7)", game.count(7), 0);
    }
}
