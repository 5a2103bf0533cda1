import java.util.function.Supplier;

/** Promise 3 with its terms, a boundary case a test: the piles, which of them give and take what, and the 10. */
final class MoveBoundsTest {
    private MoveBoundsTest() {
    }

    static void run() {
        runPiles();
        runGiving();
        runAcesPiles();
        runHouses();
        runWastes();
        runEnds();
    }

    private static void runPiles() {
        Tests.run("3: the first pile and the last one are piles", MoveBoundsTest::firstAndLastPile);
        Tests.run("3: there is no pile below 0 to move from", () -> noSuchFrom(-1, Bounds.LEAST));
        Tests.run("3: there is no pile above 21 to move from", () -> noSuchFrom(22, Bounds.GREATEST));
        Tests.run("3: there is no pile below 0 to move to", () -> noSuchTo(-1, Bounds.LEAST));
        Tests.run("3: there is no pile above 21 to move to", () -> noSuchTo(22, Bounds.GREATEST));
        Tests.run("3: no such pile goes before no move", MoveBoundsTest::noSuchBeforeNoMove);
        Tests.run("3: no such pile goes before the end of the game", MoveBoundsTest::noSuchBeforeTheEnd);
        Tests.run("3: no card goes onto its own pile", MoveBoundsTest::ownPile);
    }

    private static void runGiving() {
        Tests.run("3: each house gives to both sides", MoveBoundsTest::housesGive);
        Tests.run("3: the other side's stock gives nothing", MoveBoundsTest::otherStockGives);
        Tests.run("3: the other side's waste gives nothing", MoveBoundsTest::otherWasteGives);
        Tests.run("3: the own hand gives nothing", MoveBoundsTest::ownHandGives);
        Tests.run("3: the other side's hand gives nothing", MoveBoundsTest::otherHandGives);
        Tests.run("3: an aces' pile gives nothing", MoveBoundsTest::acesPileGives);
        Tests.run("3: a full aces' pile gives nothing", MoveBoundsTest::fullAcesPileGives);
        Tests.run("3: an empty stock gives nothing", MoveBoundsTest::emptyStockGives);
        Tests.run("3: an empty waste gives nothing", MoveBoundsTest::emptyWasteGives);
        Tests.run("3: an empty house gives nothing", MoveBoundsTest::emptyHouseGives);
        Tests.run("3: a frozen house gives nothing", MoveBoundsTest::frozenHouseGives);
        Tests.run("3: a house that the other side froze gives nothing", MoveBoundsTest::frozenByTheOther);
        Tests.run("3: a house gives again after three draws, not after two", MoveBoundsTest::thawedHouseGives);
    }

    private static void runAcesPiles() {
        Tests.run("3: each empty aces' pile takes an ace", MoveBoundsTest::emptyAcesPileTakes);
        Tests.run("3: an empty aces' pile takes no other rank", MoveBoundsTest::emptyAcesPileTakesNot);
        Tests.run("3: an aces' pile takes the next higher rank, of either pack", MoveBoundsTest::acesPileTakes);
        Tests.run("3: an aces' pile takes no rank but the next", MoveBoundsTest::acesPileTakesNoOtherRank);
        Tests.run("3: an aces' pile takes no other suit", MoveBoundsTest::acesPileTakesNoOtherSuit);
        Tests.run("3: a full aces' pile takes nothing, an ace neither", MoveBoundsTest::fullAcesPileTakes);
    }

    private static void runHouses() {
        Tests.run("3: each house takes from both sides", MoveBoundsTest::housesTake);
        Tests.run("3: an empty house takes any card", MoveBoundsTest::emptyHouseTakes);
        Tests.run("3: a house takes the ace on a two and the queen on a king", MoveBoundsTest::houseTakesEnds);
        Tests.run("3: a house takes either suit of the other colour", MoveBoundsTest::houseTakesColours);
        Tests.run("3: a house takes no suit of the same colour", MoveBoundsTest::houseTakesNoSameColour);
        Tests.run("3: a house takes no rank but the next lower", MoveBoundsTest::houseTakesNoOtherRank);
        Tests.run("3: an ace takes no king in a house", MoveBoundsTest::aceTakesNoKing);
        Tests.run("3: a king takes no ace in a house", MoveBoundsTest::kingTakesNoAce);
        Tests.run("3: a house from a king to an ace takes nothing", MoveBoundsTest::fullHouseTakes);
        Tests.run("3: a frozen house takes nothing", MoveBoundsTest::frozenHouseTakes);
        Tests.run("3: a frozen empty house takes nothing", MoveBoundsTest::frozenEmptyHouseTakes);
        Tests.run("3: a house takes again after three draws, not after two", MoveBoundsTest::thawedHouseTakes);
    }

    private static void runWastes() {
        Tests.run("3: the other side's waste takes a rank that is 1 higher", MoveBoundsTest::wasteTakesHigher);
        Tests.run("3: the other side's waste takes a rank that is 1 lower", MoveBoundsTest::wasteTakesLower);
        Tests.run("3: the other side's waste takes no king on an ace, no ace on a king", MoveBoundsTest::wasteTakesNoEnds);
        Tests.run("3: the other side's waste takes no rank that differs by 0 or 2", MoveBoundsTest::wasteTakesNoOtherRank);
        Tests.run("3: the other side's waste takes no other suit", MoveBoundsTest::wasteTakesNoOtherSuit);
        Tests.run("3: the other side's waste takes nothing if it is empty", MoveBoundsTest::emptyWasteTakes);
        Tests.run("3: the own waste takes nothing", MoveBoundsTest::ownWasteTakes);
        Tests.run("3: a stock takes nothing", MoveBoundsTest::stockTakes);
        Tests.run("3: a hand takes nothing", MoveBoundsTest::handTakes);
    }

    private static void runEnds() {
        Tests.run("3: the last card from the stock brings 10 more", MoveBoundsTest::lastOfStock);
        Tests.run("3: the last card from the waste brings 10 more, to both sides", MoveBoundsTest::lastOfWaste);
        Tests.run("3: the stock's last card brings no 10, if there are others", MoveBoundsTest::lastOfStockOnly);
        Tests.run("3: the waste's last card brings no 10, if there are others", MoveBoundsTest::lastOfWasteOnly);
        Tests.run("3: a stock alone is left: no 10 yet", MoveBoundsTest::stockIsLeft);
        Tests.run("3: there is no move after the 200th draw", MoveBoundsTest::afterTheLastDraw);
        Tests.run("3: there is no move after a side's last card", MoveBoundsTest::afterTheLastCard);
    }

    /** A row is: deal, steps by rule, from, to, the card that is moved, the card that it comes onto, the points. */
    private static void moves(int[]... rows) {
        for (int[] row : rows) {
            TwinPatience game = Games.played(row[0], row[1]);
            String call = called(row);
            begins(game, row);
            int sizes = game.pile(row[2], 0) - game.pile(row[3], 0);
            Tests.holds(call + " is listed", Bounds.isListed(game, row[2], row[3]));
            Tests.due(call, game.move(row[2], row[3]), row[6]);
            Tests.due(call + ": the top", game.pile(row[3], 1), row[4]);
            Tests.due(call + ": the sizes", game.pile(row[2], 0) - game.pile(row[3], 0), sizes - 2);
        }
    }

    /** A row is one of moves(), without the points. */
    private static void noMoves(int[]... rows) {
        for (int[] row : rows) {
            noMove(() -> Games.played(row[0], row[1]), row);
        }
    }

    /** The house is frozen before the move. */
    private static void noMovesFrozen(int house, int[]... rows) {
        for (int[] row : rows) {
            Tests.holds(called(row) + " but for the freeze", Bounds.isListed(Games.played(row[0], row[1]), row[2], row[3]));
            noMove(() -> {
                TwinPatience game = Games.played(row[0], row[1]);
                Tests.holds("frozen", game.freeze(house) >= 0);
                return game;
            }, row);
        }
    }

    private static void noMove(Supplier<TwinPatience> begin, int[] row) {
        TwinPatience game = begin.get();
        begins(game, row);
        Tests.holds(called(row) + " is not listed", !Bounds.isListed(game, row[2], row[3]));
        Bounds.unchanged(called(row), begin, begun -> begun.move(row[2], row[3]), Bounds.NOT_POSSIBLE);
    }

    private static void begins(TwinPatience game, int[] row) {
        Tests.due(called(row) + ": the game goes on", game.count(1), 0);
        Tests.due(called(row) + ": the card", game.pile(row[2], 1), row[4]);
        Tests.due(called(row) + ": that it comes onto", game.pile(row[3], 1), row[5]);
    }

    private static String called(int[] row) {
        return "deal " + row[0] + ", steps " + row[1] + ", move(" + row[2] + ", " + row[3] + ")";
    }

    // ---- piles

    private static void firstAndLastPile() {
        moves(new int[] {3, 0, 0, 21, 0, -6, 3});
        noMoves(new int[] {3, 0, 21, 0, -6, 0}, new int[] {3, 0, 21, 21, -6, -6}, new int[] {3, 0, 0, 0, 0, 0});
    }

    private static void noSuchFrom(int... piles) {
        for (int pile : piles) {
            Bounds.unchanged("move(" + pile + ", 14)", Bounds::begun, game -> game.move(pile, 14), Bounds.NO_SUCH);
        }
    }

    private static void noSuchTo(int... piles) {
        for (int pile : piles) {
            Bounds.unchanged("move(6, " + pile + ")", Bounds::begun, game -> game.move(6, pile), Bounds.NO_SUCH);
        }
    }

    private static void noSuchBeforeNoMove() {
        Bounds.unchanged("move(21, 22)", Bounds::begun, game -> game.move(21, 22), Bounds.NO_SUCH);
        Bounds.unchanged("move(-1, 0)", Bounds::begun, game -> game.move(-1, 0), Bounds.NO_SUCH);
        Bounds.unchanged("move(22, 22)", Bounds::begun, game -> game.move(22, 22), Bounds.NO_SUCH);
    }

    private static void noSuchBeforeTheEnd() {
        Bounds.unchanged("move(22, 6)", Bounds::drawnOut, game -> game.move(22, 6), Bounds.NO_SUCH);
        Bounds.unchanged("move(6, -1)", () -> Games.emptiedBy(0), game -> game.move(6, -1), Bounds.NO_SUCH);
    }

    private static void ownPile() {
        noMoves(new int[] {0, 0, 0, 0, 15, 15}, new int[] {0, 5, 2, 2, 0, 0}, new int[] {0, 0, 6, 6, 17, 17},
                new int[] {0, 0, 13, 13, 69, 69}, new int[] {0, 1, 14, 14, 52, 52}, new int[] {0, 291, 16, 16, 103, 103},
                new int[] {0, 1, 12, 12, -6, -6});
    }

    // ---- what gives

    private static void housesGive() {
        moves(new int[] {0, 1, 6, 12, 17, -6, 0}, new int[] {0, 1, 7, 12, 43, -6, 0}, new int[] {0, 0, 8, 10, 20, 86, 0},
                new int[] {0, 1, 9, 12, 41, -6, 0}, new int[] {0, 1, 10, 12, 86, -6, 0}, new int[] {0, 1, 11, 12, 60, -6, 0},
                new int[] {0, 28, 12, 13, 79, -6, 0}, new int[] {0, 1, 13, 12, 69, -6, 0});
        moves(new int[] {0, 17, 6, 7, 82, -6, 0}, new int[] {0, 13, 7, 6, 43, -6, 0}, new int[] {0, 3, 8, 10, 20, 86, 0},
                new int[] {0, 13, 9, 6, 41, -6, 0}, new int[] {0, 13, 10, 6, 86, -6, 0}, new int[] {0, 13, 11, 6, 60, -6, 0},
                new int[] {0, 13, 12, 6, 15, -6, 0}, new int[] {0, 13, 13, 6, 69, -6, 0});
    }

    private static void otherStockGives() {
        noMoves(new int[] {2, 0, 1, 14, 65, -6}, new int[] {23, 2, 1, 14, 92, 39}, new int[] {0, 1, 1, 12, 84, -6},
                new int[] {0, 0, 1, 8, 84, 20}, new int[] {0, 24, 0, 11, 30, -6}, new int[] {1, 4, 0, 2, 44, 97});
    }

    private static void otherWasteGives() {
        noMoves(new int[] {0, 3, 2, 15, 0, -6}, new int[] {0, 73, 3, 17, 92, 39}, new int[] {0, 13, 2, 6, 17, -6},
                new int[] {0, 16, 2, 13, 42, 69}, new int[] {0, 12, 2, 8, 18, 84}, new int[] {0, 89, 2, 3, 14, 15});
    }

    private static void ownHandGives() {
        noMoves(new int[] {0, 0, 4, 14, 0, -6}, new int[] {0, 70, 5, 17, 92, 39}, new int[] {0, 1, 4, 12, 0, -6},
                new int[] {0, 11, 4, 8, 18, 84}, new int[] {0, 97, 4, 3, 46, 97}, new int[] {0, 0, 4, 2, 0, -6});
    }

    private static void otherHandGives() {
        noMoves(new int[] {0, 5, 5, 15, 91, -6}, new int[] {0, 62, 5, 17, 92, 39}, new int[] {0, 1, 5, 12, 56, -6},
                new int[] {0, 9, 4, 8, 18, 84}, new int[] {0, 119, 5, 3, 89, 36});
    }

    private static void acesPileGives() {
        noMoves(new int[] {0, 1, 14, 15, 52, -6}, new int[] {0, 19, 14, 15, 53, 0}, new int[] {0, 1, 14, 12, 52, -6},
                new int[] {0, 24, 14, 11, 53, -6}, new int[] {0, 19, 14, 7, 53, 80}, new int[] {0, 73, 17, 3, 39, 92});
    }

    private static void fullAcesPileGives() {
        noMoves(new int[] {2, 300, 16, 18, 12, 63}, new int[] {0, 291, 16, 6, 103, -6}, new int[] {0, 330, 16, 2, 103, 50});
    }

    private static void emptyStockGives() {
        noMoves(new int[] {0, 82, 0, 20, -6, -6}, new int[] {0, 82, 0, 14, -6, 53}, new int[] {0, 95, 0, 11, -6, -6},
                new int[] {0, 82, 0, 10, -6, 75}, new int[] {0, 82, 0, 3, -6, 15}, new int[] {0, 86, 1, 0, -6, -6});
    }

    private static void emptyWasteGives() {
        noMoves(new int[] {0, 0, 2, 14, -6, -6}, new int[] {0, 1, 2, 14, -6, 52}, new int[] {0, 1, 2, 12, -6, -6},
                new int[] {0, 0, 2, 6, -6, 17}, new int[] {0, 3, 3, 2, -6, 0}, new int[] {0, 0, 2, 3, -6, -6});
    }

    private static void emptyHouseGives() {
        noMoves(new int[] {0, 1, 12, 15, -6, -6}, new int[] {0, 1, 12, 14, -6, 52}, new int[] {0, 101, 11, 12, -6, -6},
                new int[] {0, 1, 12, 10, -6, 86}, new int[] {0, 24, 11, 2, -6, 60});
    }

    private static void frozenHouseGives() {
        noMovesFrozen(0, new int[] {7, 0, 6, 14, 0, -6}, new int[] {0, 1, 6, 12, 17, -6});
        noMovesFrozen(7, new int[] {0, 1, 13, 12, 69, -6});
        noMovesFrozen(6, new int[] {0, 0, 12, 14, 52, -6}, new int[] {0, 38, 12, 3, 79, 78});
    }

    private static void frozenByTheOther() {
        noMove(() -> {
            TwinPatience game = Games.played(0, 0);
            game.freeze(2);
            game.draw();
            return game;
        }, new int[] {0, 0, 8, 10, 20, 86});
    }

    private static void thawedHouseGives() {
        TwinPatience game = new TwinPatience();
        game.freeze(4);
        game.draw();
        game.draw();
        Tests.due("move(10, 12) after two draws", game.move(10, 12), Bounds.NOT_POSSIBLE);
        game.draw();
        Tests.due("move(10, 12) after three draws", game.move(10, 12), 0);
    }

    // ---- aces' piles

    private static void emptyAcesPileTakes() {
        for (int pile = 14; pile <= 21; pile++) {
            moves(new int[] {3, 0, 0, pile, 0, -6, 3});
        }
        moves(new int[] {0, 5, 2, 15, 0, -6, 1}, new int[] {0, 0, 12, 14, 52, -6, 2}, new int[] {7, 0, 6, 14, 0, -6, 1});
    }

    private static void emptyAcesPileTakesNot() {
        int[] dealsByRank = {3, 40, 0, 10, 4, 1, 11, 7, 14, 109, 8, 18, 2};
        for (int rank = 1; rank <= 12; rank++) {
            TwinPatience game = Games.played(dealsByRank[rank], 0);
            int card = game.pile(0, 1);
            Tests.due("the rank", card % 13, rank);
            noMoves(new int[] {dealsByRank[rank], 0, 0, 14, card, -6}, new int[] {dealsByRank[rank], 0, 0, 21, card, -6});
        }
    }

    private static void acesPileTakes() {
        moves(new int[] {0, 18, 1, 14, 53, 52, 3}, new int[] {0, 18, 1, 15, 53, 0, 3}, new int[] {0, 290, 3, 16, 103, 102, 1},
                new int[] {7, 289, 3, 18, 90, 37, 1});
    }

    private static void acesPileTakesNoOtherRank() {
        noMoves(new int[] {0, 5, 2, 14, 0, 52}, new int[] {0, 67, 0, 14, 1, 53}, new int[] {0, 19, 1, 14, 55, 53},
                new int[] {0, 80, 2, 15, 55, 1}, new int[] {0, 7, 3, 14, 56, 52}, new int[] {0, 74, 3, 16, 92, 41},
                new int[] {0, 137, 2, 14, 2, 3}, new int[] {0, 249, 2, 20, 29, 83}, new int[] {0, 34, 3, 16, 103, 91},
                new int[] {0, 53, 3, 15, 64, 0});
    }

    private static void acesPileTakesNoOtherSuit() {
        noMoves(new int[] {0, 20, 1, 16, 79, 91}, new int[] {0, 70, 3, 16, 81, 41}, new int[] {0, 83, 3, 15, 15, 1},
                new int[] {0, 46, 3, 14, 80, 53}, new int[] {0, 74, 3, 19, 92, 13}, new int[] {0, 9, 3, 14, 91, 52});
    }

    private static void fullAcesPileTakes() {
        Tests.due("cards of a full pile", Games.played(25, 188).pile(14, 0), 13);
        noMoves(new int[] {25, 188, 3, 14, 52, 12}, new int[] {235, 239, 3, 15, 52, 64}, new int[] {25, 161, 2, 14, 78, 12},
                new int[] {0, 333, 2, 16, 51, 103}, new int[] {0, 331, 2, 16, 50, 103}, new int[] {1, 298, 2, 14, 23, 25});
    }

    // ---- houses

    private static void housesTake() {
        moves(new int[] {0, 22, 7, 6, 80, 55, 0}, new int[] {2, 60, 2, 7, 63, 38, 0}, new int[] {0, 36, 2, 8, 84, 20, 0},
                new int[] {0, 44, 0, 9, 34, 9, 2}, new int[] {0, 33, 10, 11, 86, 61, 0}, new int[] {0, 41, 0, 12, 40, 15, 2},
                new int[] {0, 29, 6, 13, 55, 30, 0});
        moves(new int[] {0, 19, 1, 6, 55, 82, 2}, new int[] {0, 18, 1, 7, 53, 80, 2}, new int[] {0, 3, 1, 8, 84, 20, 2},
                new int[] {0, 18, 1, 9, 53, 41, 2}, new int[] {0, 3, 8, 10, 20, 86, 0}, new int[] {0, 32, 10, 11, 86, 61, 0},
                new int[] {0, 20, 1, 12, 79, 15, 2}, new int[] {0, 30, 6, 13, 55, 30, 0});
    }

    private static void emptyHouseTakes() {
        moves(new int[] {24, 1, 12, 10, 65, -6, 0}, new int[] {33, 52, 1, 8, 65, -6, 2}, new int[] {0, 127, 2, 10, 26, -6, 0},
                new int[] {46, 1, 9, 6, 0, -6, 0});
        moves(new int[] {0, 28, 11, 13, 90, -6, 0}, new int[] {1, 13, 1, 9, 103, -6, 2}, new int[] {0, 151, 2, 10, 38, -6, 0},
                new int[] {1, 10, 6, 8, 38, -6, 0});
        moves(new int[] {1, 50, 0, 6, 25, -6, 2}, new int[] {0, 17, 1, 7, 80, -6, 2}, new int[] {0, 48, 0, 8, 44, -6, 2},
                new int[] {0, 43, 0, 9, 9, -6, 2}, new int[] {1, 29, 0, 10, 17, -6, 2}, new int[] {1, 33, 0, 11, 7, -6, 2},
                new int[] {3, 24, 1, 12, 62, -6, 2}, new int[] {1, 4, 1, 13, 60, -6, 2});
    }

    private static void houseTakesEnds() {
        moves(new int[] {1, 8, 2, 11, 13, 79, 0}, new int[] {3, 57, 2, 11, 13, 40, 0}, new int[] {3, 50, 1, 12, 52, 92, 2},
                new int[] {1, 187, 2, 9, 11, 103, 0}, new int[] {1, 16, 3, 6, 76, 38, 0}, new int[] {0, 66, 0, 9, 11, 51, 2});
    }

    private static void houseTakesColours() {
        moves(new int[] {0, 18, 1, 7, 53, 80, 2}, new int[] {0, 18, 1, 9, 53, 41, 2}, new int[] {0, 0, 8, 10, 20, 86, 0},
                new int[] {1, 0, 10, 13, 70, 97, 0}, new int[] {0, 20, 7, 6, 80, 55, 0}, new int[] {0, 3, 1, 8, 84, 20, 2},
                new int[] {0, 20, 9, 6, 41, 55, 0}, new int[] {0, 41, 0, 12, 40, 15, 2});
    }

    private static void houseTakesNoSameColour() {
        noMoves(new int[] {1, 32, 0, 13, 7, 60}, new int[] {0, 18, 1, 12, 53, 15}, new int[] {0, 0, 8, 11, 20, 60},
                new int[] {0, 41, 2, 7, 22, 23}, new int[] {0, 20, 1, 7, 79, 80}, new int[] {0, 20, 1, 9, 79, 41},
                new int[] {1, 0, 0, 12, 44, 84}, new int[] {0, 41, 0, 9, 40, 41});
    }

    private static void houseTakesNoOtherRank() {
        noMoves(new int[] {0, 8, 2, 11, 48, 60}, new int[] {0, 87, 2, 13, 51, 24}, new int[] {0, 19, 1, 7, 55, 80},
                new int[] {0, 7, 3, 7, 56, 43}, new int[] {0, 32, 1, 6, 81, 55}, new int[] {0, 7, 3, 8, 56, 84},
                new int[] {0, 12, 3, 7, 67, 43}, new int[] {0, 30, 3, 7, 69, 80}, new int[] {0, 8, 2, 13, 48, 69},
                new int[] {0, 12, 3, 8, 67, 84});
    }

    private static void aceTakesNoKing() {
        noMoves(new int[] {47, 0, 0, 11, 51, 65}, new int[] {37, 2, 0, 6, 51, 13}, new int[] {7, 0, 9, 6, 51, 0});
    }

    private static void kingTakesNoAce() {
        noMoves(new int[] {2, 46, 3, 7, 52, 38}, new int[] {6, 0, 13, 10, 65, 90}, new int[] {1, 45, 0, 9, 0, 103});
    }

    private static void fullHouseTakes() {
        TwinPatience game = Games.fullHouse();
        Tests.due("its cards", game.pile(7, 0), 13);
        Tests.due("its king", game.card(7, 0) % 13, 12);
        Tests.due("its ace", game.pile(7, 1) % 13, 0);
        for (int from : new int[] {0, 2, 8, 12}) {
            Tests.due("move(" + from + ", 7)", game.move(from, 7), Bounds.NOT_POSSIBLE);
            Tests.due("the same card to an empty house", game.move(from, 6), from == 0 ? 2 : 0);
            game.undo();
        }
        Tests.due("it gives its ace", game.move(7, 14), 1);
        Tests.due("its cards then", game.pile(7, 0), 12);
    }

    private static void frozenHouseTakes() {
        noMovesFrozen(0, new int[] {0, 22, 7, 6, 80, 55}, new int[] {0, 19, 1, 6, 55, 82});
        noMovesFrozen(7, new int[] {0, 29, 6, 13, 55, 30}, new int[] {1, 0, 10, 13, 70, 97});
    }

    private static void frozenEmptyHouseTakes() {
        noMovesFrozen(0, new int[] {1, 50, 0, 6, 25, -6});
        noMovesFrozen(7, new int[] {0, 28, 0, 13, 30, -6});
    }

    private static void thawedHouseTakes() {
        TwinPatience game = new TwinPatience();
        game.move(10, 12);
        game.freeze(4);
        game.draw();
        game.draw();
        Tests.due("move(0, 10) after two draws", game.move(0, 10), Bounds.NOT_POSSIBLE);
        game.draw();
        Tests.due("move(1, 10) after three draws", game.move(1, 10), 2);
    }

    // ---- wastes, stocks and hands

    private static void wasteTakesHigher() {
        moves(new int[] {1, 106, 2, 3, 27, 78, 1}, new int[] {0, 38, 12, 3, 79, 78, 1}, new int[] {0, 30, 11, 2, 90, 37, 1},
                new int[] {0, 83, 9, 2, 51, 50, 1});
    }

    private static void wasteTakesLower() {
        moves(new int[] {2, 9, 2, 3, 39, 92, 1}, new int[] {4, 63, 0, 3, 0, 1, 2}, new int[] {2, 102, 13, 3, 37, 90, 1},
                new int[] {0, 74, 9, 2, 11, 12, 1});
    }

    private static void wasteTakesNoEnds() {
        noMoves(new int[] {4, 69, 2, 3, 51, 91}, new int[] {9, 129, 2, 3, 64, 52}, new int[] {1, 65, 6, 3, 25, 65},
                new int[] {4, 38, 2, 3, 26, 90}, new int[] {248, 156, 3, 2, 91, 103}, new int[] {72, 19, 1, 2, 91, 51});
    }

    private static void wasteTakesNoOtherRank() {
        noMoves(new int[] {0, 244, 2, 3, 49, 101}, new int[] {1, 14, 1, 2, 73, 21}, new int[] {0, 13, 3, 2, 67, 17},
                new int[] {0, 99, 3, 2, 44, 46}, new int[] {0, 56, 3, 2, 73, 19}, new int[] {1, 158, 3, 2, 12, 10});
    }

    private static void wasteTakesNoOtherSuit() {
        noMoves(new int[] {0, 60, 3, 2, 73, 9}, new int[] {0, 109, 2, 3, 10, 24}, new int[] {0, 81, 2, 3, 55, 15},
                new int[] {0, 135, 2, 3, 54, 66}, new int[] {0, 124, 2, 3, 3, 95}, new int[] {0, 101, 2, 3, 46, 21},
                new int[] {0, 23, 3, 2, 99, 7}, new int[] {0, 26, 3, 2, 99, 59});
    }

    private static void emptyWasteTakes() {
        noMoves(new int[] {0, 0, 0, 3, 15, -6}, new int[] {3, 0, 0, 3, 0, -6}, new int[] {2, 0, 0, 3, 38, -6},
                new int[] {0, 0, 12, 3, 52, -6}, new int[] {6, 0, 10, 3, 90, -6});
    }

    private static void ownWasteTakes() {
        noMoves(new int[] {0, 0, 0, 2, 15, -6}, new int[] {1, 6, 0, 2, 44, 97}, new int[] {0, 49, 0, 2, 24, 25},
                new int[] {5, 19, 6, 3, 85, 34}, new int[] {0, 41, 7, 2, 23, 22}, new int[] {0, 22, 6, 2, 55, 43});
    }

    private static void stockTakes() {
        noMoves(new int[] {0, 61, 1, 0, 75, 24}, new int[] {2, 30, 8, 1, 5, 58}, new int[] {1, 0, 13, 0, 97, 44},
                new int[] {0, 38, 2, 0, 22, 23}, new int[] {1, 12, 10, 0, 70, 32}, new int[] {0, 22, 6, 0, 55, 30},
                new int[] {0, 83, 1, 0, 96, -6}, new int[] {0, 82, 6, 0, 82, -6});
    }

    private static void handTakes() {
        noMoves(new int[] {0, 36, 0, 4, 23, 22}, new int[] {0, 23, 1, 4, 90, 37}, new int[] {0, 9, 13, 4, 69, 18},
                new int[] {0, 100, 2, 4, 46, 47}, new int[] {0, 11, 0, 4, 30, 18}, new int[] {0, 9, 1, 4, 82, 18},
                new int[] {77, 124, 0, 4, 34, -6}, new int[] {77, 124, 0, 5, 34, -6}, new int[] {0, 146, 2, 4, 5, -6});
    }

    // ---- the end

    private static void brings(TwinPatience game, int from, int to, int points, boolean isOver) {
        int side = game.count(0);
        int before = game.side(side, 0);
        int others = game.side(1 - side, 0);
        String call = "move(" + from + ", " + to + ") of side " + side;
        Tests.due(call, game.move(from, to), points);
        Tests.due(call + ": its points", game.side(side, 0), before + points);
        Tests.due(call + ": the other side's", game.side(1 - side, 0), others);
        Tests.due(call + ": count(1)", game.count(1), isOver ? 1 : 0);
        Tests.due(call + ": side(.., 2)", game.side(side, 2) == 0 ? 1 : 0, isOver ? 1 : 0);
        Tests.due(call + ": the turn goes on", game.count(0), side);
    }

    private static void lastOfStock() {
        TwinPatience game = Games.lastOfStock();
        Tests.due("the stock", game.pile(0, 0), 1);
        brings(game, 0, 9, 12, true);
    }

    private static void lastOfWaste() {
        brings(Games.lastOfWaste(0), 2, 6, 10, true);
        brings(Games.lastOfWaste(0), 2, 3, 11, true);
        brings(Games.lastOfWaste(1), 3, 6, 10, true);
        brings(Games.lastOfWaste(1), 3, 2, 11, true);
        brings(Games.lastOfWaste(1), 3, 17, 11, true);
    }

    private static void lastOfStockOnly() {
        Tests.due("the hand", Games.played(86, 131).pile(5, 0), 0);
        brings(Games.played(86, 131), 1, 7, 2, false);
        Tests.due("the waste", Games.played(525, 26).pile(2, 0), 0);
        brings(Games.played(525, 26), 0, 16, 3, false);
        brings(Games.played(0, 81), 0, 12, 2, false);
        brings(Games.played(0, 85), 1, 17, 3, false);
    }

    private static void lastOfWasteOnly() {
        Tests.due("the stock", Games.played(0, 148).pile(0, 0), 0);
        brings(Games.played(0, 148), 2, 6, 0, false);
        brings(Games.played(0, 149), 3, 6, 0, false);
        brings(Games.played(0, 5), 2, 15, 1, false);
        brings(Games.played(1, 4), 3, 13, 0, false);
    }

    private static void stockIsLeft() {
        for (int side = 0; side <= 1; side++) {
            TwinPatience game = Games.without(side);
            Tests.due("side(" + side + ", 2)", game.side(side, 2), 13);
            Tests.due("count(1)", game.count(1), 0);
        }
        brings(Games.without(1), 1, 8, 2, false);
    }

    private static void afterTheLastDraw() {
        TwinPatience game = Games.drawnOut();
        Tests.due("move(10, 12) after the end", game.move(10, 12), Bounds.NOT_POSSIBLE);
        game.undo();
        Tests.due("move(10, 12) before it", game.move(10, 12), 0);
        Tests.holds("a card and an empty house", Bounds.drawnOut().pile(2, 0) > 0 && Bounds.drawnOut().pile(6, 0) == 0);
        Bounds.unchanged("move(2, 6)", Bounds::drawnOut, over -> over.move(2, 6), Bounds.NOT_POSSIBLE);
    }

    private static void afterTheLastCard() {
        TwinPatience game = Games.lastOfStock();
        game.move(0, 9);
        Tests.due("a queen in a house", game.pile(9, 1), 37);
        Tests.due("a jack of the other colour", game.pile(13, 1), 23);
        Tests.due("move(13, 9)", game.move(13, 9), Bounds.NOT_POSSIBLE);
        Tests.due("the jack stays", game.pile(13, 1), 23);
        Tests.due("moves", game.count(3), 86);
    }
}
