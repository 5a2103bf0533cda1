/** The promises 14 to 16, a boundary case a test. */
final class WhatIfBoundsTest {
    private WhatIfBoundsTest() {
    }

    static void run() {
        runBest();
        runIfPlayed();
        runBuried();
    }

    private static void runBest() {
        Tests.run("14: no move, though the game goes on", WhatIfBoundsTest::bestNone);
        Tests.run("14: no move after the 200th draw", WhatIfBoundsTest::bestAfterTheLastDraw);
        Tests.run("14: no move after a side's last card", WhatIfBoundsTest::bestAfterTheLastCard);
        Tests.run("14: the only move, though it is worth 0", WhatIfBoundsTest::bestOnly);
        Tests.run("14: of several with the most points the first one", WhatIfBoundsTest::bestOfSeveral);
        Tests.run("14: the last move is the best one", WhatIfBoundsTest::bestLast);
        Tests.run("14: the 10 does not count", WhatIfBoundsTest::bestWithoutTheTen);
        Tests.run("14: nothing changes", () -> Bounds.unchanged("best()", Bounds::begun, TwinPatience::best, 0));
    }

    private static void runIfPlayed() {
        Tests.run("15: one step, a move", WhatIfBoundsTest::ifPlayedOneMove);
        Tests.run("15: one step, a draw", WhatIfBoundsTest::ifPlayedOneDraw);
        Tests.run("15: two hundred steps, the most", WhatIfBoundsTest::ifPlayedTwoHundred);
        Tests.run("15: no step or less is refused", () -> ifPlayedRefused(0, -1, Bounds.LEAST));
        Tests.run("15: more than two hundred steps are refused", () -> ifPlayedRefused(201, Bounds.GREATEST));
        Tests.run("15: what is not below 0", () -> ifPlayedWrong(-1, Bounds.LEAST));
        Tests.run("15: what is not above 3", () -> ifPlayedWrong(4, Bounds.GREATEST));
        Tests.run("15: arguments out of range are refused after the end, too", WhatIfBoundsTest::ifPlayedRefusedAfterTheEnd);
        Tests.run("15: the steps end with the 200th draw", WhatIfBoundsTest::ifPlayedToTheLastDraw);
        Tests.run("15: the steps end with a side's last card, and its 10", WhatIfBoundsTest::ifPlayedToTheLastCard);
        Tests.run("15: no step after the end", WhatIfBoundsTest::ifPlayedAfterTheEnd);
        Tests.run("15: a draw without a card is a draw", WhatIfBoundsTest::ifPlayedNoCard);
        Tests.run("15: nothing changes", WhatIfBoundsTest::ifPlayedChangesNothing);
    }

    private static void runBuried() {
        Tests.run("16: the first card and the last one", WhatIfBoundsTest::buriedFirstAndLast);
        Tests.run("16: there is no card below 0", () -> buriedNoSuch(-1, Bounds.LEAST));
        Tests.run("16: there is no card above 103", () -> buriedNoSuch(104, Bounds.GREATEST));
        Tests.run("16: no such card, after the end, too", WhatIfBoundsTest::buriedNoSuchAfterTheEnd);
        Tests.run("16: no card lies on the top one, all lie on the lowest", WhatIfBoundsTest::buriedTopAndLowest);
        Tests.run("16: 1000 more for an ace, but for no other rank at first", WhatIfBoundsTest::buriedAces);
        Tests.run("16: 1000 more for the next rank of the suit alone", WhatIfBoundsTest::buriedNext);
        Tests.run("16: not for an ace, if no aces' pile is empty", WhatIfBoundsTest::buriedNoEmptyPile);
        Tests.run("16: not for an ace on a full aces' pile", WhatIfBoundsTest::buriedFullPile);
        Tests.run("16: it does not matter that a house is frozen", WhatIfBoundsTest::buriedFrozen);
        Tests.run("16: it does not matter that the other side is to play", WhatIfBoundsTest::buriedOfTheOther);
        Tests.run("16: not after the 200th draw", WhatIfBoundsTest::buriedAfterTheLastDraw);
        Tests.run("16: not after a side's last card", WhatIfBoundsTest::buriedAfterTheLastCard);
        Tests.run("16: nothing changes", () -> Bounds.unchanged("buried(0)", Bounds::begun, game -> game.buried(0) * 0, 0));
    }

    // ---- 14

    private static void bestNone() {
        for (int steps = 4; steps <= 6; steps += 2) {
            TwinPatience game = Games.played(0, steps);
            Tests.due("count(1)", game.count(1), 0);
            Tests.due("best()", game.best(), Bounds.NONE);
        }
    }

    private static void bestAfterTheLastDraw() {
        Tests.due("best()", Bounds.drawnOut().best(), Bounds.NONE);
        TwinPatience game = Games.drawnOut();
        game.undo();
        Tests.due("best() before", game.best(), 3);
        game.draw();
        Tests.due("best()", game.best(), Bounds.NONE);
    }

    private static void bestAfterTheLastCard() {
        Tests.due("best()", Games.emptiedBy(0).best(), Bounds.NONE);
        TwinPatience game = Games.lastOfStock();
        Tests.due("best() before", game.best(), 0);
        game.move(0, 9);
        Tests.due("best()", game.best(), Bounds.NONE);
    }

    private static void bestOnly() {
        TwinPatience game = Games.played(0, 2);
        Tests.due("count(5)", game.count(5), 1);
        Tests.due("best()", game.best(), 0);
        Tests.due("ofMove(0, 2)", game.ofMove(0, 2), 0);
    }

    /** A row is: deal, steps by rule, the best move, its points, how many moves have so many. */
    private static void bestOfSeveral() {
        int[][] rows = {{587, 0, 0, 3, 8}, {3, 50, 3, 3, 7}, {0, 139, 7, 1, 3}, {0, 0, 1, 2, 8}, {0, 172, 0, 0, 8},
            {0, 53, 1, 1, 2}, {26, 65, 4, 2, 2}};
        for (int[] row : rows) {
            TwinPatience game = Games.played(row[0], row[1]);
            String call = "deal " + row[0] + ", steps " + row[1] + ", best()";
            Tests.due(call, game.best(), row[2]);
            int most = 0;
            for (int move = 0; move < game.count(5); move++) {
                Tests.holds(call + ": none has more", game.ofMove(move, 2) <= row[3]);
                most += game.ofMove(move, 2) == row[3] ? 1 : 0;
                Tests.holds(call + ": it is the first", move >= row[2] || game.ofMove(move, 2) < row[3]);
            }
            Tests.due(call + ": moves with the most points", most, row[4]);
        }
    }

    private static void bestLast() {
        TwinPatience game = Games.played(2, 20);
        Tests.due("count(5)", game.count(5), 3);
        Tests.due("best()", game.best(), 2);
    }

    private static void bestWithoutTheTen() {
        TwinPatience game = Games.played(711, 353);
        Tests.due("the side's last card", game.side(1, 2), 1);
        Tests.due("count(5)", game.count(5), 9);
        Tests.due("best()", game.best(), 8);
        Tests.due("ofMove(8, 2)", game.ofMove(8, 2), 1);
        TwinPatience houses = Games.lastOfStock();
        Tests.due("best()", houses.best(), 0);
        houses.freeze(3);
        Tests.due("best() without a move of the last card", houses.best(), Bounds.NONE);
    }

    // ---- 15

    private static void ifPlayed(TwinPatience game, int steps, int... due) {
        for (int what = 0; what <= 3; what++) {
            Tests.due("ifPlayed(" + steps + ", " + what + ")", game.ifPlayed(steps, what), due[what]);
        }
    }

    private static void ifPlayedOneMove() {
        ifPlayed(Games.played(3, 0), 1, 3, 0, 1, 0);
    }

    private static void ifPlayedOneDraw() {
        ifPlayed(new TwinPatience(), 1, 0, 0, 0, 1);
        TwinPatience game = new TwinPatience();
        game.draw();
        game.draw();
        Tests.due("ifPlayed(1, 3)", game.ifPlayed(1, 3) + game.ifPlayed(1, 0), 1);
    }

    private static void ifPlayedTwoHundred() {
        TwinPatience game = Games.played(9, 13);
        TwinPatience played = Games.played(9, 13);
        int draws = played.count(2);
        played.play(60);
        played.play(60);
        played.play(60);
        played.play(20);
        Tests.due("count(1)", played.count(1), 0);
        ifPlayed(game, 200, played.side(0, 0), played.side(1, 0), played.count(4), played.count(2) - draws);
        played.undo();
        played.play(19);
        ifPlayed(game, 199, played.side(0, 0), played.side(1, 0), played.count(4), played.count(2) - draws);
    }

    private static void ifPlayedRefused(int... steps) {
        for (int number : steps) {
            for (int what = 0; what <= 3; what++) {
                int asked = what;
                Bounds.unchanged("ifPlayed(" + number + ", " + what + ")", Bounds::begun, game -> game.ifPlayed(number, asked),
                        Bounds.BAD_VALUE);
            }
        }
    }

    private static void ifPlayedWrong(int... whats) {
        for (int what : whats) {
            for (int steps : new int[] {0, 1, 200, 201}) {
                Bounds.unchanged("ifPlayed(" + steps + ", " + what + ")", Bounds::begun, game -> game.ifPlayed(steps, what),
                        Bounds.BAD_VALUE);
            }
        }
    }

    private static void ifPlayedRefusedAfterTheEnd() {
        TwinPatience game = Bounds.drawnOut();
        Tests.due("ifPlayed(0, 0)", game.ifPlayed(0, 0), Bounds.BAD_VALUE);
        Tests.due("ifPlayed(201, 0)", game.ifPlayed(201, 0), Bounds.BAD_VALUE);
        Tests.due("ifPlayed(1, 4)", game.ifPlayed(1, 4), Bounds.BAD_VALUE);
    }

    private static void ifPlayedToTheLastDraw() {
        TwinPatience game = Games.played(7, 300);
        int left = 200 - game.count(2);
        ifPlayed(game, 200, 87, 75, 71, left);
        ifPlayed(game, 28, 87, 75, 71, left);
        ifPlayed(game, 27, 87, 75, 71, left);
        Tests.due("ifPlayed(26, 3)", game.ifPlayed(26, 3), left - 1);
    }

    private static void ifPlayedToTheLastCard() {
        ifPlayed(Games.lastOfWaste(0), 200, 110, 91, 90, 0);
        ifPlayed(Games.lastOfWaste(0), 1, 110, 91, 90, 0);
        TwinPatience game = Games.lastOfWaste(1);
        int aces = game.count(4);
        ifPlayed(game, 200, 83, 116, aces, 0);
    }

    private static void ifPlayedAfterTheEnd() {
        for (int steps : new int[] {1, 200}) {
            ifPlayed(Bounds.drawnOut(), steps, 87, 75, 71, 0);
            ifPlayed(Games.emptiedBy(0), steps, 110, 91, 90, 0);
        }
    }

    private static void ifPlayedNoCard() {
        TwinPatience game = Games.without(0);
        game.freeze(6);
        Tests.due("moves that there are", game.count(5), 0);
        Tests.due("ifPlayed(1, 3)", game.ifPlayed(1, 3), 1);
    }

    private static void ifPlayedChangesNothing() {
        for (int what = 0; what <= 3; what++) {
            int asked = what;
            int due = Bounds.begun().ifPlayed(200, what);
            Bounds.unchanged("ifPlayed(200, " + what + ")", Bounds::begun, game -> game.ifPlayed(200, asked), due);
        }
    }

    // ---- 16

    private static void buriedFirstAndLast() {
        TwinPatience game = new TwinPatience();
        Tests.due("buried(0)", game.buried(0), 1010);
        Tests.due("buried(51)", game.buried(51), 14);
        Tests.due("buried(52)", game.buried(52), 1010);
        Tests.due("buried(103)", game.buried(103), 1);
    }

    private static void buriedNoSuch(int... cards) {
        for (int card : cards) {
            Bounds.unchanged("buried(" + card + ")", Bounds::begun, game -> game.buried(card), Bounds.NO_SUCH);
        }
    }

    private static void buriedNoSuchAfterTheEnd() {
        Tests.due("buried(104)", Bounds.drawnOut().buried(104), Bounds.NO_SUCH);
        Tests.due("buried(-1)", Games.emptiedBy(1).buried(-1), Bounds.NO_SUCH);
    }

    private static void buriedTopAndLowest() {
        TwinPatience game = new TwinPatience();
        Tests.due("the stock's top card", game.buried(44), 0);
        Tests.due("the stock's lowest card", game.buried(6), 12);
        Tests.due("the hand's top card", game.buried(42), 0);
        Tests.due("the hand's lowest card", game.buried(35), 34);
        Tests.due("a house's only card", game.buried(38), 0);
        game.move(10, 12);
        Tests.due("a house's lower card", game.buried(84), 1);
        Tests.due("a house's upper card", game.buried(70), 0);
        game.draw();
        Tests.due("the waste's only card", game.buried(42), 0);
        TwinPatience full = Games.fullHouse();
        Tests.due("a full house's king", full.buried(38), 12);
        Tests.due("a full house's ace", full.buried(26), 1000);
    }

    private static void buriedAces() {
        TwinPatience game = new TwinPatience();
        for (int card = 0; card < 104; card++) {
            int pile = game.where(card, 0);
            int above = game.pile(pile, 0) - 1 - game.where(card, 1);
            Tests.due("buried(" + card + ")", game.buried(card), above + (card % 13 == 0 ? 1000 : 0));
        }
    }

    /** The ace of the suit 0 lies on the pile 14; a two of the suit is the next, of either pack. */
    private static void buriedNext() {
        TwinPatience game = Games.played(3, 0);
        Tests.due("a two before", game.buried(1) / 1000, 0);
        game.move(0, 14);
        Tests.due("the top card", game.pile(14, 1), 0);
        for (int card = 1; card < 104; card++) {
            boolean fits = card % 13 == 0 || card == 1 || card == 53;
            Tests.due("buried(" + card + ") / 1000", game.buried(card) / 1000, fits ? 1 : 0);
        }
    }

    private static void buriedNoEmptyPile() {
        TwinPatience game = Games.played(0, 172);
        for (int pile = 14; pile <= 21; pile++) {
            Tests.holds("an ace lies there", game.card(pile, 0) % 13 == 0);
            Tests.due("buried by the pile's other cards", game.buried(game.card(pile, 0)), game.pile(pile, 0) - 1);
        }
        Tests.due("the next card of the pile 16", game.buried(46) / 1000, 1);
        Tests.due("the next card of the pile 21", game.buried(27) / 1000, 1);
        Tests.due("a later card", game.buried(28) / 1000, 0);
    }

    private static void buriedFullPile() {
        TwinPatience game = Games.played(0, 291);
        Tests.due("the pile 16", game.pile(16, 0), 13);
        Tests.due("its ace", game.buried(91), 12);
        Tests.due("the other ace of the suit", game.buried(39), 8);
        Tests.due("its king", game.buried(103), 0);
        Tests.due("a king that is not next", game.buried(12) / 1000, 0);
        Tests.due("the ten that is next", game.buried(48) / 1000, 1);
    }

    private static void buriedFrozen() {
        TwinPatience game = Games.played(7, 0);
        Tests.due("an ace in a house", game.buried(0), 1000);
        game.freeze(0);
        Tests.due("frozen", game.pile(6, 2), 3);
        Tests.due("an ace in a frozen house", game.buried(0), 1000);
    }

    private static void buriedOfTheOther() {
        TwinPatience game = new TwinPatience();
        Tests.due("an ace in the own stock", game.buried(0), 1010);
        Tests.due("an ace in the other side's stock", game.buried(52), 1010);
        game.draw();
        Tests.due("an ace in the other side's stock", game.buried(0), 1010);
        Tests.due("an ace in the own stock", game.buried(52), 1010);
        Tests.due("an ace in the other side's hand", game.buried(13), 1001);
    }

    private static void buriedAfterTheLastDraw() {
        TwinPatience game = Games.drawnOut();
        for (int card = 0; card < 104; card += 13) {
            Tests.holds("buried(" + card + ")", game.buried(card) < 1000);
        }
        game.undo();
        for (int card = 0; card < 104; card += 13) {
            Tests.holds("buried(" + card + ") before", game.buried(card) >= 1000);
        }
    }

    private static void buriedAfterTheLastCard() {
        TwinPatience game = Games.lastOfStock();
        Tests.due("the next card before", game.buried(44), 1004);
        Tests.due("an ace before", game.buried(65), 1011);
        game.move(0, 9);
        Tests.due("the next card", game.buried(44), 4);
        Tests.due("an ace", game.buried(65), 11);
    }
}
