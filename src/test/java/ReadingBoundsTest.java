/** The promises 8 to 13, a boundary case a test. */
final class ReadingBoundsTest {
    private ReadingBoundsTest() {
    }

    static void run() {
        runPile();
        runCard();
        runWhere();
        runSide();
        runCount();
        runOfMove();
    }

    private static void runPile() {
        Tests.run("8: the first pile and the last one", ReadingBoundsTest::pileFirstAndLast);
        Tests.run("8: there is no pile below 0", () -> pileNoSuch(-1, Bounds.LEAST));
        Tests.run("8: there is no pile above 21", () -> pileNoSuch(22, Bounds.GREATEST));
        Tests.run("8: what is not below 0", () -> pileWrong(-1, Bounds.LEAST));
        Tests.run("8: what is not above 2", () -> pileWrong(3, Bounds.GREATEST));
        Tests.run("8: no such pile goes before what out of range", ReadingBoundsTest::pileNoSuchFirst);
        Tests.run("8: an error goes before NONE", ReadingBoundsTest::pileErrorBeforeNone);
        Tests.run("8: an empty pile of each kind", ReadingBoundsTest::pileEmpty);
        Tests.run("8: each aces' pile, full", ReadingBoundsTest::pileFullAces);
        Tests.run("8: a full house", ReadingBoundsTest::pileFullHouse);
        Tests.run("8: frozen for three draws more, then two, one, none", ReadingBoundsTest::pileFrozen);
        Tests.run("8: what is no house is frozen for 0", ReadingBoundsTest::pileNoHouse);
        Tests.run("8: a freeze that the end of the game overtakes", ReadingBoundsTest::pileFrozenAtTheEnd);
    }

    private static void runCard() {
        Tests.run("9: the lowest card and the top one", ReadingBoundsTest::cardLowestAndTop);
        Tests.run("9: there is no card below place 0", () -> cardNoSuch(4, -1, Bounds.LEAST));
        Tests.run("9: there is no card above the top one", () -> cardNoSuch(13, 1, 2, 13, Bounds.GREATEST));
        Tests.run("9: an empty pile has no card", ReadingBoundsTest::cardEmpty);
        Tests.run("9: a card that went is there no more", ReadingBoundsTest::cardWent);
        Tests.run("9: there is no pile below 0", () -> cardNoPile(-1, Bounds.LEAST));
        Tests.run("9: there is no pile above 21", () -> cardNoPile(22, Bounds.GREATEST));
        Tests.run("9: the first pile and the last one", ReadingBoundsTest::cardFirstAndLastPile);
    }

    private static void runWhere() {
        Tests.run("10: the first card and the last one of both packs", ReadingBoundsTest::whereFirstAndLast);
        Tests.run("10: there is no card below 0", () -> whereNoSuch(-1, Bounds.LEAST));
        Tests.run("10: there is no card above 103", () -> whereNoSuch(104, Bounds.GREATEST));
        Tests.run("10: what is not below 0", () -> whereWrong(-1, Bounds.LEAST));
        Tests.run("10: what is not above 1", () -> whereWrong(2, Bounds.GREATEST));
        Tests.run("10: no such card goes before what out of range", ReadingBoundsTest::whereNoSuchFirst);
        Tests.run("10: the lowest place and the top one", ReadingBoundsTest::whereLowestAndTop);
        Tests.run("10: a card that went and came back", ReadingBoundsTest::whereTurnedOver);
    }

    private static void runSide() {
        Tests.run("11: there is no side below 0", () -> sideWrong(-1, Bounds.LEAST));
        Tests.run("11: there is no side above 1", () -> sideWrong(2, Bounds.GREATEST));
        Tests.run("11: what is not below 0", () -> sideWhatWrong(-1, Bounds.LEAST));
        Tests.run("11: what is not above 3", () -> sideWhatWrong(4, Bounds.GREATEST));
        Tests.run("11: no points, and the 10", ReadingBoundsTest::sidePoints);
        Tests.run("11: two freezes, one, none", ReadingBoundsTest::sideFreezes);
        Tests.run("11: all cards of its stock, waste and hand, and none", ReadingBoundsTest::sideCards);
        Tests.run("11: a side without a card in its houses", ReadingBoundsTest::sideNoHouse);
        Tests.run("11: a house of thirteen cards", ReadingBoundsTest::sideFullHouse);
        Tests.run("11: the longest house is the first one, the last one or one between", ReadingBoundsTest::sideEndHouses);
    }

    private static void runCount() {
        Tests.run("12: what is not below 0", () -> countWrong(-1, Bounds.LEAST));
        Tests.run("12: what is not above 8", () -> countWrong(9, Bounds.GREATEST));
        Tests.run("12: the turn comes back to the side 0", ReadingBoundsTest::countTurn);
        Tests.run("12: 199 draws, 200 draws and the end", ReadingBoundsTest::countDraws);
        Tests.run("12: over by a side's last card", ReadingBoundsTest::countEmptied);
        Tests.run("12: a refused move is none", ReadingBoundsTest::countMoves);
        Tests.run("12: none and all thirteen cards on an aces' pile", ReadingBoundsTest::countAces);
        Tests.run("12: no move, one, and forty", ReadingBoundsTest::countMovesThereAre);
        Tests.run("12: no frozen house, and four", ReadingBoundsTest::countFrozen);
        Tests.run("12: an empty pad and a full one", ReadingBoundsTest::countPad);
        Tests.run("12: nothing can be undone, and six changes", ReadingBoundsTest::countHistory);
    }

    private static void runOfMove() {
        Tests.run("13: the first move and the last one of forty", ReadingBoundsTest::ofMoveFirstAndLast);
        Tests.run("13: there is no move below 0", () -> ofMoveNoSuch(-1, Bounds.LEAST));
        Tests.run("13: there is no move behind the last one", () -> ofMoveNoSuch(40, 41, 170, Bounds.GREATEST));
        Tests.run("13: one move, and no second", ReadingBoundsTest::ofMoveOne);
        Tests.run("13: no move, though the game goes on", ReadingBoundsTest::ofMoveNone);
        Tests.run("13: no move after the end", ReadingBoundsTest::ofMoveAfterTheEnd);
        Tests.run("13: what is not below 0", () -> ofMoveWrong(-1, Bounds.LEAST));
        Tests.run("13: what is not above 2", () -> ofMoveWrong(3, Bounds.GREATEST));
        Tests.run("13: no such move goes before what out of range", ReadingBoundsTest::ofMoveNoSuchFirst);
        Tests.run("13: the last card's points are without the 10", ReadingBoundsTest::ofMoveWithoutTheTen);
    }

    // ---- 8

    private static void pileFirstAndLast() {
        TwinPatience game = Games.played(3, 0);
        Tests.due("pile(0, 0)", game.pile(0, 0), 13);
        Tests.due("pile(0, 1)", game.pile(0, 1), 0);
        Tests.due("pile(21, 0)", game.pile(21, 0), 0);
        game.move(0, 21);
        Tests.due("pile(0, 0)", game.pile(0, 0), 12);
        Tests.due("pile(21, 0)", game.pile(21, 0), 1);
        Tests.due("pile(21, 1)", game.pile(21, 1), 0);
    }

    private static void pileNoSuch(int... piles) {
        for (int pile : piles) {
            for (int what = 0; what <= 2; what++) {
                int asked = what;
                Bounds.unchanged("pile(" + pile + ", " + what + ")", Bounds::begun, game -> game.pile(pile, asked),
                        Bounds.NO_SUCH);
            }
        }
    }

    private static void pileWrong(int... whats) {
        for (int what : whats) {
            for (int pile : new int[] {0, 6, 13, 21}) {
                Bounds.unchanged("pile(" + pile + ", " + what + ")", Bounds::begun, game -> game.pile(pile, what),
                        Bounds.BAD_VALUE);
            }
        }
    }

    private static void pileNoSuchFirst() {
        TwinPatience game = new TwinPatience();
        Tests.due("pile(22, 3)", game.pile(22, 3), Bounds.NO_SUCH);
        Tests.due("pile(-1, -1)", game.pile(-1, -1), Bounds.NO_SUCH);
    }

    private static void pileErrorBeforeNone() {
        TwinPatience game = new TwinPatience();
        Tests.due("pile(22, 1)", game.pile(22, 1), Bounds.NO_SUCH);
        Tests.due("pile(-1, 1)", game.pile(-1, 1), Bounds.NO_SUCH);
        Tests.due("pile(21, 3)", game.pile(21, 3), Bounds.BAD_VALUE);
        Tests.due("pile(2, -1)", game.pile(2, -1), Bounds.BAD_VALUE);
    }

    private static void isEmpty(TwinPatience game, int pile) {
        Tests.due("pile(" + pile + ", 0)", game.pile(pile, 0), 0);
        Tests.due("pile(" + pile + ", 1)", game.pile(pile, 1), Bounds.NONE);
        Tests.due("pile(" + pile + ", 2)", game.pile(pile, 2), 0);
        Tests.due("card(" + pile + ", 0)", game.card(pile, 0), Bounds.NO_SUCH);
    }

    /** After 147 steps of deal 0 there is one of each kind, which had cards before, but for the wastes. */
    private static void pileEmpty() {
        TwinPatience game = Games.played(0, 146);
        for (int pile : new int[] {0, 1, 4, 5, 6, 10}) {
            isEmpty(game, pile);
        }
        for (int pile : new int[] {2, 3, 14, 21}) {
            isEmpty(new TwinPatience(), pile);
        }
        isEmpty(Games.without(0), 2);
        isEmpty(Games.without(1), 3);
    }

    private static void pileFullAces() {
        int[][] rows = {{1, 277, 14}, {2, 228, 15}, {0, 291, 16}, {19, 319, 17}, {2, 301, 18}, {42, 292, 19}, {23, 305, 20},
            {163, 334, 21}};
        for (int[] row : rows) {
            TwinPatience game = Games.played(row[0], row[1]);
            Tests.due("pile(" + row[2] + ", 0)", game.pile(row[2], 0), 13);
            int suit = game.pile(row[2], 1) % 52 / 13;
            for (int rank = 0; rank < 13; rank++) {
                Tests.due("card " + rank + " of pile " + row[2], game.card(row[2], rank) % 52, 13 * suit + rank);
            }
            Tests.due("the king's place", game.where(game.pile(row[2], 1), 1), 12);
        }
    }

    private static void pileFullHouse() {
        TwinPatience game = Games.fullHouse();
        Tests.due("pile(7, 0)", game.pile(7, 0), 13);
        Tests.due("pile(7, 1)", game.pile(7, 1), 26);
        game.freeze(1);
        Tests.due("pile(7, 2)", game.pile(7, 2), 3);
    }

    private static void pileFrozen() {
        for (int house = 0; house <= 7; house += 7) {
            TwinPatience game = new TwinPatience();
            Tests.due("before", game.pile(6 + house, 2), 0);
            game.freeze(house);
            for (int left : new int[] {3, 2, 1, 0, 0}) {
                Tests.due("pile(" + (6 + house) + ", 2)", game.pile(6 + house, 2), left);
                game.draw();
            }
        }
    }

    private static void pileNoHouse() {
        TwinPatience game = new TwinPatience();
        game.freeze(0);
        game.freeze(7);
        for (int pile = 0; pile <= 21; pile++) {
            Tests.due("pile(" + pile + ", 2)", game.pile(pile, 2), pile == 6 || pile == 13 ? 3 : 0);
        }
    }

    private static void pileFrozenAtTheEnd() {
        TwinPatience game = Games.played(7, 326);
        game.freeze(0);
        game.draw();
        Tests.due("count(1)", game.count(1), 1);
        Tests.due("pile(6, 2)", game.pile(6, 2), 2);
        Tests.due("count(6)", game.count(6), 1);
    }

    // ---- 9

    private static void cardLowestAndTop() {
        TwinPatience game = new TwinPatience();
        Tests.due("card(0, 0)", game.card(0, 0), 6);
        Tests.due("card(0, 12)", game.card(0, 12), 44);
        Tests.due("card(5, 0)", game.card(5, 0), 59);
        Tests.due("card(5, 34)", game.card(5, 34), 88);
        Tests.due("card(6, 0)", game.card(6, 0), 38);
        Tests.due("card(13, 0)", game.card(13, 0), 97);
    }

    private static void cardNoSuch(int pile, int... places) {
        for (int place : places) {
            Bounds.unchanged("card(" + pile + ", " + place + ")", TwinPatience::new, game -> game.card(pile, place),
                    Bounds.NO_SUCH);
        }
        TwinPatience game = new TwinPatience();
        Tests.due("card(0, 13)", game.card(0, 13), Bounds.NO_SUCH);
        Tests.due("card(4, 35)", game.card(4, 35), Bounds.NO_SUCH);
        Tests.due("card(5, 35)", game.card(5, 35), Bounds.NO_SUCH);
    }

    private static void cardEmpty() {
        TwinPatience game = new TwinPatience();
        for (int pile : new int[] {2, 3, 14, 21}) {
            for (int place : new int[] {0, 1, -1}) {
                Tests.due("card(" + pile + ", " + place + ")", game.card(pile, place), Bounds.NO_SUCH);
            }
        }
    }

    private static void cardWent() {
        TwinPatience game = new TwinPatience();
        game.draw();
        Tests.due("card(4, 33)", game.card(4, 33), 46);
        Tests.due("card(4, 34)", game.card(4, 34), Bounds.NO_SUCH);
        Tests.due("card(2, 0)", game.card(2, 0), 42);
        Tests.due("card(2, 1)", game.card(2, 1), Bounds.NO_SUCH);
        game.move(10, 12);
        Tests.due("card(10, 0)", game.card(10, 0), Bounds.NO_SUCH);
        Tests.due("card(12, 1)", game.card(12, 1), 70);
        Tests.due("card(12, 2)", game.card(12, 2), Bounds.NO_SUCH);
    }

    private static void cardNoPile(int... piles) {
        for (int pile : piles) {
            for (int place : new int[] {0, -1, 12, Bounds.GREATEST}) {
                Tests.due("card(" + pile + ", " + place + ")", Bounds.begun().card(pile, place), Bounds.NO_SUCH);
            }
        }
    }

    private static void cardFirstAndLastPile() {
        TwinPatience game = Games.played(3, 0);
        Tests.due("card(21, 0)", game.card(21, 0), Bounds.NO_SUCH);
        game.move(0, 21);
        Tests.due("card(21, 0)", game.card(21, 0), 0);
        Tests.due("card(0, 12)", game.card(0, 12), Bounds.NO_SUCH);
        Tests.holds("card(0, 11)", game.card(0, 11) >= 0);
    }

    // ---- 10

    private static void lies(TwinPatience game, int card, int pile, int place) {
        Tests.due("where(" + card + ", 0)", game.where(card, 0), pile);
        Tests.due("where(" + card + ", 1)", game.where(card, 1), place);
        Tests.due("card(" + pile + ", " + place + ")", game.card(pile, place), card);
    }

    private static void whereFirstAndLast() {
        TwinPatience game = new TwinPatience();
        lies(game, 0, 0, 2);
        lies(game, 51, 4, 20);
        lies(game, 52, 1, 2);
        lies(game, 103, 1, 11);
    }

    private static void whereNoSuch(int... cards) {
        for (int card : cards) {
            for (int what = 0; what <= 1; what++) {
                int asked = what;
                Bounds.unchanged("where(" + card + ", " + what + ")", Bounds::begun, game -> game.where(card, asked),
                        Bounds.NO_SUCH);
            }
        }
    }

    private static void whereWrong(int... whats) {
        for (int what : whats) {
            for (int card : new int[] {0, 103}) {
                Bounds.unchanged("where(" + card + ", " + what + ")", Bounds::begun, game -> game.where(card, what),
                        Bounds.BAD_VALUE);
            }
        }
    }

    private static void whereNoSuchFirst() {
        TwinPatience game = new TwinPatience();
        Tests.due("where(104, 2)", game.where(104, 2), Bounds.NO_SUCH);
        Tests.due("where(-1, -1)", game.where(-1, -1), Bounds.NO_SUCH);
    }

    private static void whereLowestAndTop() {
        TwinPatience game = new TwinPatience();
        lies(game, 6, 0, 0);
        lies(game, 44, 0, 12);
        lies(game, 35, 4, 0);
        lies(game, 42, 4, 34);
        game.move(10, 12);
        lies(game, 84, 12, 0);
        lies(game, 70, 12, 1);
        TwinPatience full = Games.played(25, 188);
        lies(full, 12, 14, 12);
        TwinPatience ace = Games.played(3, 0);
        ace.move(0, 21);
        lies(ace, 0, 21, 0);
    }

    private static void whereTurnedOver() {
        TwinPatience game = new TwinPatience();
        for (int i = 0; i < 70; i++) {
            game.draw();
        }
        lies(game, 42, 2, 0);
        lies(game, 35, 2, 34);
        game.draw();
        lies(game, 42, 2, 0);
        lies(game, 35, 4, 0);
        game.draw();
        game.draw();
        lies(game, 42, 2, 0);
        lies(game, 46, 2, 1);
    }

    // ---- 11

    private static void sideWrong(int... sides) {
        for (int side : sides) {
            for (int what : new int[] {-1, 0, 1, 2, 3, 4}) {
                Bounds.unchanged("side(" + side + ", " + what + ")", Bounds::begun, game -> game.side(side, what),
                        Bounds.BAD_VALUE);
            }
        }
    }

    private static void sideWhatWrong(int... whats) {
        for (int what : whats) {
            for (int side = 0; side <= 1; side++) {
                int asked = side;
                Bounds.unchanged("side(" + side + ", " + what + ")", Bounds::begun, game -> game.side(asked, what),
                        Bounds.BAD_VALUE);
            }
        }
    }

    private static void sidePoints() {
        TwinPatience game = new TwinPatience();
        Tests.due("side(0, 0)", game.side(0, 0), 0);
        Tests.due("side(1, 0)", game.side(1, 0), 0);
        TwinPatience last = Games.lastOfWaste(0);
        Tests.due("side(0, 0)", last.side(0, 0), 99);
        last.move(2, 6);
        Tests.due("side(0, 0) with the 10", last.side(0, 0), 109);
        Tests.due("side(1, 0)", last.side(1, 0), 91);
    }

    private static void sideFreezes() {
        TwinPatience game = new TwinPatience();
        for (int left = 2; left >= 0; left--) {
            Tests.due("side(0, 1)", game.side(0, 1), left);
            Tests.due("side(1, 1)", game.side(1, 1), 2);
            game.freeze(left);
        }
        Tests.due("side(0, 1)", game.side(0, 1), 0);
    }

    private static void sideCards() {
        TwinPatience game = new TwinPatience();
        Tests.due("side(0, 2)", game.side(0, 2), 48);
        Tests.due("side(1, 2)", game.side(1, 2), 48);
        for (int side = 0; side <= 1; side++) {
            Tests.due("one card left", Games.lastOfWaste(side).side(side, 2), 1);
            Tests.due("none left", Games.emptiedBy(side).side(side, 2), 0);
            Tests.due("a stock of 13 left", Games.without(side).side(side, 2), 13);
        }
        Tests.due("one card left, on the stock", Games.lastOfStock().side(0, 2), 1);
    }

    private static void sideNoHouse() {
        TwinPatience game = Games.played(0, 291);
        for (int house = 6; house <= 13; house++) {
            Tests.due("pile(" + house + ", 0)", game.pile(house, 0), 0);
        }
        Tests.due("side(0, 3)", game.side(0, 3), 0);
        Tests.due("side(1, 3)", game.side(1, 3), 0);
    }

    private static void sideFullHouse() {
        Tests.due("side(0, 3)", Games.fullHouse().side(0, 3), 13);
        Tests.due("side(1, 3)", Games.fullHouse().side(1, 3), 2);
    }

    /** A row is: deal, steps by rule, the longest house of its side, its cards. */
    private static void sideEndHouses() {
        int[][] rows = {{0, 35, 6, 2}, {4, 2, 7, 2}, {0, 4, 8, 2}, {1, 70, 9, 2}, {0, 109, 10, 1}, {8, 33, 11, 2},
            {0, 21, 12, 2}, {1, 127, 13, 1}};
        for (int[] row : rows) {
            TwinPatience game = Games.played(row[0], row[1]);
            int side = row[2] < 10 ? 0 : 1;
            for (int house = 6 + 4 * side; house < 10 + 4 * side; house++) {
                Tests.due(row[2] + " is longer than " + house, game.pile(house, 0) < row[3] ? 1 : 0, house == row[2] ? 0 : 1);
            }
            Tests.due("side(" + side + ", 3)", game.side(side, 3), row[3]);
        }
    }

    // ---- 12

    private static void countWrong(int... whats) {
        for (int what : whats) {
            Bounds.unchanged("count(" + what + ")", Bounds::begun, game -> game.count(what), Bounds.BAD_VALUE);
        }
    }

    private static void countTurn() {
        TwinPatience game = new TwinPatience();
        for (int side : new int[] {0, 1, 0, 1}) {
            Tests.due("count(0)", game.count(0), side);
            game.draw();
        }
    }

    private static void countDraws() {
        TwinPatience game = Games.drawnOut();
        Tests.due("count(2)", game.count(2), 200);
        Tests.due("count(1)", game.count(1), 1);
        Tests.due("count(3)", game.count(3), 0);
        game.undo();
        Tests.due("count(2)", game.count(2), 199);
        Tests.due("count(1)", game.count(1), 0);
        game.deal(1);
        Tests.due("count(2)", game.count(2), 0);
    }

    private static void countEmptied() {
        for (int side = 0; side <= 1; side++) {
            TwinPatience game = Games.lastOfWaste(side);
            Tests.due("count(1)", game.count(1), 0);
            game.move(2 + side, 6);
            Tests.due("count(1)", game.count(1), 1);
            Tests.due("count(5)", game.count(5), 0);
            Tests.due("count(0)", game.count(0), side);
        }
    }

    private static void countMoves() {
        TwinPatience game = new TwinPatience();
        game.move(12, 10);
        game.move(22, 0);
        Tests.due("count(3)", game.count(3), 0);
        game.move(10, 12);
        Tests.due("count(3)", game.count(3), 1);
        game.undo();
        Tests.due("count(3)", game.count(3), 0);
    }

    private static void countAces() {
        TwinPatience game = Games.played(3, 0);
        Tests.due("count(4)", game.count(4), 0);
        game.move(0, 21);
        Tests.due("count(4)", game.count(4), 1);
        Tests.due("count(4) with a full pile", Games.played(0, 291).count(4), 62);
    }

    private static void countMovesThereAre() {
        Tests.due("count(5)", Games.played(0, 4).count(5), 0);
        Tests.due("count(5)", Games.played(0, 6).count(5), 0);
        Tests.due("count(5)", Games.played(0, 2).count(5), 1);
        Tests.due("count(5)", Games.played(587, 0).count(5), 40);
    }

    private static void countFrozen() {
        TwinPatience game = new TwinPatience();
        Tests.due("count(6)", game.count(6), 0);
        game.freeze(0);
        game.freeze(7);
        Tests.due("count(6)", game.count(6), 2);
        game.draw();
        game.freeze(3);
        game.freeze(4);
        for (int frozen : new int[] {4, 4, 2, 0, 0}) {
            Tests.due("count(6)", game.count(6), frozen);
            game.draw();
        }
    }

    private static void countPad() {
        TwinPatience game = new TwinPatience();
        Tests.due("count(7)", game.count(7), 0);
        Games.write(game, "d,".repeat(30));
        Tests.due("count(7)", game.count(7), 60);
        game.put('d');
        Tests.due("count(7)", game.count(7), 60);
        game.wipe();
        Tests.due("count(7)", game.count(7), 0);
    }

    private static void countHistory() {
        TwinPatience game = new TwinPatience();
        for (int changes = 0; changes <= 8; changes++) {
            Tests.due("count(8)", game.count(8), Math.min(changes, 6));
            game.draw();
        }
        for (int left = 5; left >= 0; left--) {
            game.undo();
            Tests.due("count(8)", game.count(8), left);
        }
        game.undo();
        Tests.due("count(8)", game.count(8), 0);
    }

    // ---- 13

    private static void isMove(TwinPatience game, int move, int from, int to, int points) {
        Tests.due("ofMove(" + move + ", 0)", game.ofMove(move, 0), from);
        Tests.due("ofMove(" + move + ", 1)", game.ofMove(move, 1), to);
        Tests.due("ofMove(" + move + ", 2)", game.ofMove(move, 2), points);
    }

    /** Five aces can go to eight piles each. */
    private static void ofMoveFirstAndLast() {
        TwinPatience game = Games.played(587, 0);
        int[] from = {0, 9, 10, 12, 13};
        int[] points = {3, 1, 2, 2, 2};
        for (int move = 0; move < 40; move++) {
            isMove(game, move, from[move / 8], 14 + move % 8, points[move / 8]);
        }
    }

    private static void ofMoveNoSuch(int... moves) {
        for (int move : moves) {
            for (int what = 0; what <= 2; what++) {
                int asked = what;
                Bounds.unchanged("ofMove(" + move + ", " + what + ")", () -> Games.played(587, 0),
                        game -> game.ofMove(move, asked), Bounds.NO_SUCH);
            }
        }
    }

    private static void ofMoveOne() {
        TwinPatience game = Games.played(0, 2);
        isMove(game, 0, 8, 10, 0);
        Tests.due("ofMove(1, 0)", game.ofMove(1, 0), Bounds.NO_SUCH);
    }

    private static void ofMoveNone() {
        TwinPatience game = Games.played(0, 4);
        Tests.due("count(1)", game.count(1), 0);
        for (int what = 0; what <= 2; what++) {
            Tests.due("ofMove(0, " + what + ")", game.ofMove(0, what), Bounds.NO_SUCH);
        }
    }

    private static void ofMoveAfterTheEnd() {
        Tests.due("ofMove(0, 0)", Bounds.drawnOut().ofMove(0, 0), Bounds.NO_SUCH);
        TwinPatience game = Games.lastOfStock();
        Tests.due("moves before", game.count(5), 8);
        game.move(0, 9);
        Tests.due("ofMove(0, 0)", game.ofMove(0, 0), Bounds.NO_SUCH);
    }

    private static void ofMoveWrong(int... whats) {
        for (int what : whats) {
            for (int move : new int[] {0, 39}) {
                Bounds.unchanged("ofMove(" + move + ", " + what + ")", () -> Games.played(587, 0),
                        game -> game.ofMove(move, what), Bounds.BAD_VALUE);
            }
        }
    }

    private static void ofMoveNoSuchFirst() {
        TwinPatience game = Games.played(587, 0);
        Tests.due("ofMove(40, 3)", game.ofMove(40, 3), Bounds.NO_SUCH);
        Tests.due("ofMove(-1, -1)", game.ofMove(-1, -1), Bounds.NO_SUCH);
        Tests.due("ofMove(0, 3) without a move", Games.played(0, 4).ofMove(0, 3), Bounds.NO_SUCH);
    }

    private static void ofMoveWithoutTheTen() {
        isMove(Games.lastOfWaste(1), 0, 3, 2, 1);
        isMove(Games.lastOfWaste(1), 1, 3, 6, 0);
        isMove(Games.lastOfStock(), 0, 0, 9, 2);
    }
}
