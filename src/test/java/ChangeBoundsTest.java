/** The promises 1, 2 and 4 to 7 with their terms, a boundary case a test. */
final class ChangeBoundsTest {
    /** The packs of both sides as they lie shuffled by the smallest number and by the largest one. */
    private static final int[] DEALT_BY_0 = {
        21, 13, 1, 11, 51, 24, 44, 34, 9, 40, 23, 30, 15, 17, 43, 20, 41, 5, 32, 29, 2, 26, 3, 45, 36, 28,
        27, 49, 10, 47, 46, 16, 6, 14, 50, 4, 12, 35, 8, 19, 33, 39, 25, 22, 31, 37, 7, 42, 18, 38, 48, 0,
        93, 96, 75, 81, 61, 59, 90, 79, 55, 53, 80, 82, 84, 86, 60, 52, 69, 63, 100, 74, 66, 54, 95, 89, 87, 101,
        57, 58, 76, 98, 72, 97, 62, 85, 94, 68, 88, 92, 83, 65, 73, 64, 71, 78, 77, 103, 70, 99, 102, 67, 91, 56,
    };
    private static final int[] DEALT_BY_THE_LARGEST = {
        30, 39, 48, 45, 16, 47, 4, 19, 28, 36, 43, 11, 40, 15, 8, 46, 37, 42, 38, 29, 21, 33, 1, 44, 49, 20,
        2, 10, 5, 14, 34, 9, 22, 41, 27, 3, 32, 31, 7, 35, 0, 51, 6, 24, 50, 18, 26, 25, 13, 12, 23, 17,
        87, 91, 89, 84, 96, 56, 62, 69, 63, 60, 61, 95, 77, 94, 55, 86, 70, 99, 100, 92, 83, 54, 58, 72, 97, 66,
        102, 67, 79, 73, 74, 53, 98, 71, 101, 68, 82, 81, 78, 65, 88, 90, 57, 52, 85, 59, 75, 103, 93, 80, 64, 76,
    };

    private ChangeBoundsTest() {
    }

    static void run() {
        runNewAndDeal();
        runDraw();
        runFreeze();
        runPlay();
        runPlayAll();
    }

    private static void runNewAndDeal() {
        Tests.run("1: a new object has nothing to undo", ChangeBoundsTest::newHistory);
        Tests.run("1: a new object has an empty pad", ChangeBoundsTest::newPad);
        Tests.run("1: a new object has nothing saved in its slots", ChangeBoundsTest::newSlots);
        Tests.run("2: the smallest number, 0", () -> dealt(0, DEALT_BY_0));
        Tests.run("2: the largest number; x is cut at 2147483648", () -> dealt(Bounds.GREATEST, DEALT_BY_THE_LARGEST));
        Tests.run("2: a number below 0 is refused", ChangeBoundsTest::dealBelow);
        Tests.run("2: all other piles are empty again", ChangeBoundsTest::dealEmpties);
        Tests.run("2: both sides have 0 points again", ChangeBoundsTest::dealPoints);
        Tests.run("2: both sides have 2 freezes again", ChangeBoundsTest::dealFreezes);
        Tests.run("2: nothing is frozen any more", ChangeBoundsTest::dealThaws);
        Tests.run("2: no draws and no moves were made", ChangeBoundsTest::dealCounts);
        Tests.run("2: the side 0 is to play again", ChangeBoundsTest::dealTurn);
        Tests.run("2: a game that is over goes on with a deal", ChangeBoundsTest::dealAfterTheEnd);
    }

    private static void runDraw() {
        Tests.run("4: the hand's last card is drawn, and nothing is turned over", ChangeBoundsTest::drawLastOfHand);
        Tests.run("4: an empty hand: the waste is turned over, its top card lowest", ChangeBoundsTest::drawTurnsOver);
        Tests.run("4: an empty hand, and a waste of one card", ChangeBoundsTest::drawOneCard);
        Tests.run("4: hand and waste empty: no card, but the turn ends", ChangeBoundsTest::drawNoCard);
        Tests.run("4: the 199th draw does not end the game", ChangeBoundsTest::drawLastButOne);
        Tests.run("4: the 200th draw gives its card and ends the game", ChangeBoundsTest::drawLast);
        Tests.run("4: the 200th draw ends the game without a card, too", ChangeBoundsTest::drawLastWithoutCard);
        Tests.run("4: no draw after the 200th", ChangeBoundsTest::drawAfterTheLast);
        Tests.run("4: no draw after a side's last card", ChangeBoundsTest::drawAfterTheLastCard);
    }

    private static void runFreeze() {
        Tests.run("5: the first house is pile 6", () -> freezeHouse(0, 6));
        Tests.run("5: the last house is pile 13", () -> freezeHouse(7, 13));
        Tests.run("5: there is no house below 0", () -> freezeNoSuch(-1, Bounds.LEAST));
        Tests.run("5: there is no house above 7", () -> freezeNoSuch(8, Bounds.GREATEST));
        Tests.run("5: no such house goes before none left", ChangeBoundsTest::freezeNoSuchNoneLeft);
        Tests.run("5: no such house goes before the end of the game", ChangeBoundsTest::freezeNoSuchAfterTheEnd);
        Tests.run("5: an empty house can be frozen", ChangeBoundsTest::freezeEmpty);
        Tests.run("5: a frozen house is refused to the same side", ChangeBoundsTest::freezeFrozen);
        Tests.run("5: a frozen house is refused to the other side", ChangeBoundsTest::freezeFrozenByTheOther);
        Tests.run("5: a house is frozen for three draws, not two", ChangeBoundsTest::freezeThreeDraws);
        Tests.run("5: moves and freezes do not thaw a house", ChangeBoundsTest::freezeAndMoves);
        Tests.run("5: a draw without a card counts for a frozen house", ChangeBoundsTest::freezeAndNoCard);
        Tests.run("5: each side has two freezes, the third is refused", ChangeBoundsTest::freezeNoneLeft);
        Tests.run("5: a thawed house does not give its freeze back", ChangeBoundsTest::freezeIsSpent);
        Tests.run("5: no freeze after the 200th draw", ChangeBoundsTest::freezeAfterTheLastDraw);
        Tests.run("5: no freeze after a side's last card", ChangeBoundsTest::freezeAfterTheLastCard);
    }

    private static void runPlay() {
        Tests.run("6: one step, the least", ChangeBoundsTest::playOne);
        Tests.run("6: sixty steps, the most", ChangeBoundsTest::playSixty);
        Tests.run("6: no step or less is refused", () -> playRefused(0, -1, Bounds.LEAST));
        Tests.run("6: more than sixty steps are refused", () -> playRefused(61, Bounds.GREATEST));
        Tests.run("6: steps out of range are refused after the end, too", ChangeBoundsTest::playRefusedAfterTheEnd);
        Tests.run("6: a best move worth 0 is not made", ChangeBoundsTest::playWorthNothing);
        Tests.run("6: a best move worth 1 is made", ChangeBoundsTest::playWorthOne);
        Tests.run("6: the 10 does not make a move worth a point", ChangeBoundsTest::playWithoutTheTen);
        Tests.run("6: it draws if there is no move", ChangeBoundsTest::playNoMove);
        Tests.run("6: a draw without a card is a step", ChangeBoundsTest::playNoCard);
        Tests.run("6: the 200th draw is the last step", ChangeBoundsTest::playToTheLastDraw);
        Tests.run("6: a side's last card is the last step", ChangeBoundsTest::playToTheLastCard);
        Tests.run("6: no step after the end, but a change", ChangeBoundsTest::playAfterTheEnd);
    }

    private static void runPlayAll() {
        Tests.run("7: an empty pad is refused", ChangeBoundsTest::playAllEmpty);
        Tests.run("7: a pad with a fault is refused and stays", ChangeBoundsTest::playAllFault);
        Tests.run("7: a fault is refused after the end, too", ChangeBoundsTest::playAllFaultAfterTheEnd);
        Tests.run("7: one step", ChangeBoundsTest::playAllOne);
        Tests.run("7: a full pad", ChangeBoundsTest::playAllFull);
        Tests.run("7: the first step is refused: none is done, the pad is emptied, a change", ChangeBoundsTest::playAllNone);
        Tests.run("7: steps behind a refused one are not done", ChangeBoundsTest::playAllStops);
        Tests.run("7: the last step is refused", ChangeBoundsTest::playAllLastRefused);
        Tests.run("7: a refused freeze ends it", ChangeBoundsTest::playAllFreezeRefused);
        Tests.run("7: the 200th draw ends it", ChangeBoundsTest::playAllOverTheLastDraw);
        Tests.run("7: a side's last card ends it", ChangeBoundsTest::playAllOverTheLastCard);
        Tests.run("7: a draw without a card does not end it", ChangeBoundsTest::playAllNoCard);
        Tests.run("7: it is one change", ChangeBoundsTest::playAllOneChange);
    }

    // ---- 1 and 2

    private static void newHistory() {
        TwinPatience game = new TwinPatience();
        Tests.due("count(8)", game.count(8), 0);
        Tests.due("undo()", game.undo(), Bounds.NOT_POSSIBLE);
    }

    private static void newPad() {
        TwinPatience game = new TwinPatience();
        Tests.due("count(7)", game.count(7), 0);
        Tests.due("fault()", game.fault(), 0);
        Tests.due("wipe()", game.wipe(), 0);
    }

    private static void newSlots() {
        TwinPatience game = new TwinPatience();
        Tests.due("restore(0)", game.restore(0), Bounds.NOT_POSSIBLE);
        Tests.due("restore(1)", game.restore(1), Bounds.NOT_POSSIBLE);
    }

    private static void dealt(int number, int[] packs) {
        TwinPatience game = new TwinPatience();
        Tests.due("deal(" + number + ")", game.deal(number), packs[12]);
        for (int side = 0; side <= 1; side++) {
            int[] sizes = {13, 0, 35};
            for (int kind = 0; kind < 3; kind++) {
                Tests.due("size of pile " + (2 * kind + side), game.pile(2 * kind + side, 0), sizes[kind]);
            }
            for (int k = 0; k < 52; k++) {
                int pile = k < 13 ? side : k < 17 ? 6 + 4 * side + k - 13 : 4 + side;
                int place = k < 13 ? k : k < 17 ? 0 : k - 17;
                Tests.due("card(" + pile + ", " + place + ")", game.card(pile, place), packs[52 * side + k]);
            }
        }
        for (int house = 6; house <= 13; house++) {
            Tests.due("size of house " + house, game.pile(house, 0), 1);
        }
    }

    private static void dealBelow() {
        for (int number : new int[] {-1, -2147483647, Bounds.LEAST}) {
            Bounds.unchanged("deal(" + number + ")", Bounds::begun, game -> game.deal(number), Bounds.BAD_VALUE);
        }
    }

    /** A game in which everything that a deal sets is otherwise. */
    private static TwinPatience disordered() {
        TwinPatience game = Games.played(5, 101);
        game.freeze(0);
        game.draw();
        game.freeze(7);
        Tests.due("the side to play", game.count(0), 1);
        Tests.holds("points", game.side(0, 0) > 0 && game.side(1, 0) > 0);
        Tests.holds("cards on aces' piles", game.count(4) > 0);
        return game;
    }

    private static void dealEmpties() {
        TwinPatience game = disordered();
        game.deal(5);
        for (int pile : new int[] {2, 3, 14, 15, 16, 17, 18, 19, 20, 21}) {
            Tests.due("pile(" + pile + ", 0)", game.pile(pile, 0), 0);
            Tests.due("pile(" + pile + ", 1)", game.pile(pile, 1), Bounds.NONE);
        }
        Tests.due("count(4)", game.count(4), 0);
    }

    private static void dealPoints() {
        TwinPatience game = disordered();
        game.deal(5);
        Tests.due("side(0, 0)", game.side(0, 0), 0);
        Tests.due("side(1, 0)", game.side(1, 0), 0);
    }

    private static void dealFreezes() {
        TwinPatience game = disordered();
        game.deal(5);
        Tests.due("side(0, 1)", game.side(0, 1), 2);
        Tests.due("side(1, 1)", game.side(1, 1), 2);
    }

    private static void dealThaws() {
        TwinPatience game = disordered();
        Tests.due("count(6) before", game.count(6), 2);
        game.deal(5);
        Tests.due("count(6)", game.count(6), 0);
        Tests.due("pile(6, 2)", game.pile(6, 2), 0);
        Tests.due("pile(13, 2)", game.pile(13, 2), 0);
    }

    private static void dealCounts() {
        TwinPatience game = disordered();
        game.deal(5);
        Tests.due("count(2)", game.count(2), 0);
        Tests.due("count(3)", game.count(3), 0);
    }

    private static void dealTurn() {
        TwinPatience game = disordered();
        game.deal(5);
        Tests.due("count(0)", game.count(0), 0);
    }

    private static void dealAfterTheEnd() {
        TwinPatience drawn = Bounds.drawnOut();
        drawn.deal(1);
        Tests.due("count(1)", drawn.count(1), 0);
        Tests.due("draw()", drawn.draw(), 42);
        TwinPatience emptied = Games.emptiedBy(1);
        emptied.deal(1);
        Tests.due("count(1)", emptied.count(1), 0);
        Tests.due("move(10, 12)", emptied.move(10, 12), 0);
    }

    // ---- 4

    private static TwinPatience drawn(int draws) {
        TwinPatience game = new TwinPatience();
        for (int i = 0; i < draws; i++) {
            game.draw();
        }
        return game;
    }

    private static void drawLastOfHand() {
        TwinPatience game = drawn(68);
        Tests.due("the hand", game.pile(4, 0), 1);
        int last = game.pile(4, 1);
        int lowest = game.card(2, 0);
        Tests.due("draw()", game.draw(), last);
        Tests.due("the hand then", game.pile(4, 0), 0);
        Tests.due("the waste", game.pile(2, 0), 35);
        Tests.due("its lowest card", game.card(2, 0), lowest);
        Tests.due("its top card", game.pile(2, 1), last);
    }

    private static void drawTurnsOver() {
        TwinPatience game = drawn(70);
        Tests.due("the hand", game.pile(4, 0), 0);
        int[] waste = new int[35];
        for (int place = 0; place < 35; place++) {
            waste[place] = game.card(2, place);
        }
        Tests.due("draw()", game.draw(), waste[0]);
        Tests.due("the waste", game.pile(2, 0), 1);
        Tests.due("its card", game.pile(2, 1), waste[0]);
        Tests.due("the hand", game.pile(4, 0), 34);
        for (int place = 0; place < 34; place++) {
            Tests.due("card(4, " + place + ")", game.card(4, place), waste[34 - place]);
        }
        Tests.due("the other side's waste", game.pile(3, 0), 35);
        Tests.due("the turn ends", game.count(0), 1);
    }

    private static void drawOneCard() {
        for (int side = 0; side <= 1; side++) {
            TwinPatience game = Games.lastOfWaste(side);
            int card = game.pile(2 + side, 1);
            int draws = game.count(2);
            Tests.due("draw()", game.draw(), card);
            Tests.due("the waste", game.pile(2 + side, 0), 1);
            Tests.due("the hand", game.pile(4 + side, 0), 0);
            Tests.due("the turn ends", game.count(0), 1 - side);
            Tests.due("count(2)", game.count(2), draws + 1);
        }
    }

    private static void drawNoCard() {
        for (int side = 0; side <= 1; side++) {
            TwinPatience game = Games.without(side);
            Tests.due("the side to play", game.count(0), side);
            Tests.due("the hand and the waste", game.pile(4 + side, 0) + game.pile(2 + side, 0), 0);
            int draws = game.count(2);
            Tests.due("draw()", game.draw(), Bounds.NONE);
            Tests.due("the hand and the waste", game.pile(4 + side, 0) + game.pile(2 + side, 0), 0);
            Tests.due("the stock", game.pile(side, 0), 13);
            Tests.due("the turn ends", game.count(0), 1 - side);
            Tests.due("count(2)", game.count(2), draws + 1);
            Tests.due("it is a change", game.undo(), 5);
            Tests.due("count(2)", game.count(2), draws);
        }
    }

    private static void drawLastButOne() {
        TwinPatience game = drawn(199);
        Tests.due("count(2)", game.count(2), 199);
        Tests.due("count(1)", game.count(1), 0);
        Tests.due("move(10, 12)", game.move(10, 12), 0);
    }

    private static void drawLast() {
        TwinPatience game = drawn(199);
        int card = game.pile(5, 1);
        Tests.due("draw()", game.draw(), card);
        Tests.due("count(2)", game.count(2), 200);
        Tests.due("count(1)", game.count(1), 1);
        Tests.due("count(5)", game.count(5), 0);
        Tests.due("no 10 for it", game.side(0, 0) + game.side(1, 0), 0);
    }

    private static void drawLastWithoutCard() {
        TwinPatience game = Games.without(1);
        for (int draws = game.count(2); draws < 199; draws++) {
            game.draw();
        }
        Tests.due("count(1)", game.count(1), 0);
        Tests.due("draw()", game.draw(), Bounds.NONE);
        Tests.due("count(1)", game.count(1), 1);
    }

    private static void drawAfterTheLast() {
        Bounds.unchanged("draw()", Bounds::drawnOut, TwinPatience::draw, Bounds.NOT_POSSIBLE);
    }

    private static void drawAfterTheLastCard() {
        Tests.holds("fewer than 200 draws", Games.emptiedBy(0).count(2) < 200 && Games.emptiedBy(1).count(2) < 200);
        Bounds.unchanged("draw()", () -> Games.emptiedBy(0), TwinPatience::draw, Bounds.NOT_POSSIBLE);
        Bounds.unchanged("draw()", () -> Games.emptiedBy(1), TwinPatience::draw, Bounds.NOT_POSSIBLE);
    }

    // ---- 5

    private static void freezeHouse(int house, int pile) {
        for (int draws = 0; draws <= 1; draws++) {
            TwinPatience game = drawn(draws);
            Tests.due("freeze(" + house + ") of side " + draws, game.freeze(house), 1);
            for (int other = 0; other < 22; other++) {
                Tests.due("pile(" + other + ", 2)", game.pile(other, 2), other == pile ? 3 : 0);
            }
        }
    }

    private static void freezeNoSuch(int... houses) {
        for (int house : houses) {
            Bounds.unchanged("freeze(" + house + ")", Bounds::begun, game -> game.freeze(house), Bounds.NO_SUCH);
        }
    }

    private static TwinPatience noneLeft() {
        TwinPatience game = new TwinPatience();
        game.freeze(0);
        game.freeze(1);
        return game;
    }

    private static void freezeNoSuchNoneLeft() {
        Tests.due("freeze(8)", noneLeft().freeze(8), Bounds.NO_SUCH);
        Tests.due("freeze(-1)", noneLeft().freeze(-1), Bounds.NO_SUCH);
    }

    private static void freezeNoSuchAfterTheEnd() {
        Bounds.unchanged("freeze(8)", Bounds::drawnOut, game -> game.freeze(8), Bounds.NO_SUCH);
        Bounds.unchanged("freeze(-1)", () -> Games.emptiedBy(0), game -> game.freeze(-1), Bounds.NO_SUCH);
    }

    private static void freezeEmpty() {
        TwinPatience game = new TwinPatience();
        game.move(10, 12);
        Tests.due("the house", game.pile(10, 0), 0);
        Tests.due("freeze(4)", game.freeze(4), 1);
        Tests.due("pile(10, 2)", game.pile(10, 2), 3);
    }

    private static void freezeFrozen() {
        for (int house : new int[] {0, 7}) {
            TwinPatience game = new TwinPatience();
            game.freeze(house);
            Tests.due("freeze(" + house + ")", game.freeze(house), Bounds.NOT_POSSIBLE);
            Tests.due("side(0, 1)", game.side(0, 1), 1);
            Tests.due("pile(.., 2)", game.pile(6 + house, 2), 3);
            Tests.due("count(8)", game.count(8), 1);
        }
    }

    private static void freezeFrozenByTheOther() {
        TwinPatience game = new TwinPatience();
        game.freeze(3);
        game.draw();
        Tests.due("freeze(3)", game.freeze(3), Bounds.NOT_POSSIBLE);
        Tests.due("side(1, 1)", game.side(1, 1), 2);
        Tests.due("pile(9, 2)", game.pile(9, 2), 2);
    }

    private static void freezeThreeDraws() {
        for (int house = 0; house <= 7; house++) {
            TwinPatience game = new TwinPatience();
            game.freeze(house);
            for (int left = 3; left >= 1; left--) {
                Tests.due("pile(.., 2)", game.pile(6 + house, 2), left);
                Tests.due("count(6)", game.count(6), 1);
                Tests.due("freeze(" + house + ")", game.freeze(house), Bounds.NOT_POSSIBLE);
                game.draw();
            }
            Tests.due("pile(.., 2)", game.pile(6 + house, 2), 0);
            Tests.due("count(6)", game.count(6), 0);
            Tests.due("freeze(" + house + ")", game.freeze(house), 1);
        }
    }

    private static void freezeAndMoves() {
        TwinPatience game = new TwinPatience();
        game.freeze(0);
        game.move(10, 12);
        game.move(0, 10);
        game.freeze(1);
        Tests.due("pile(6, 2)", game.pile(6, 2), 3);
        Tests.due("pile(7, 2)", game.pile(7, 2), 3);
    }

    private static void freezeAndNoCard() {
        TwinPatience game = Games.without(0);
        game.freeze(1);
        Tests.due("draw()", game.draw(), Bounds.NONE);
        Tests.due("pile(7, 2)", game.pile(7, 2), 2);
    }

    private static void freezeNoneLeft() {
        TwinPatience game = new TwinPatience();
        Tests.due("freeze(0)", game.freeze(0), 1);
        Tests.due("freeze(1)", game.freeze(1), 0);
        Tests.due("freeze(2)", game.freeze(2), Bounds.NOT_POSSIBLE);
        Tests.due("side(0, 1)", game.side(0, 1), 0);
        Tests.due("pile(8, 2)", game.pile(8, 2), 0);
        Tests.due("count(8)", game.count(8), 2);
        game.draw();
        Tests.due("the other side's freeze(2)", game.freeze(2), 1);
        Tests.due("the other side's freeze(3)", game.freeze(3), 0);
        Tests.due("the other side's freeze(4)", game.freeze(4), Bounds.NOT_POSSIBLE);
        Tests.due("count(6)", game.count(6), 4);
    }

    private static void freezeIsSpent() {
        TwinPatience game = noneLeft();
        for (int i = 0; i < 4; i++) {
            game.draw();
        }
        Tests.due("count(6)", game.count(6), 0);
        Tests.due("side(0, 1)", game.side(0, 1), 0);
        Tests.due("freeze(0)", game.freeze(0), Bounds.NOT_POSSIBLE);
    }

    private static void freezeAfterTheLastDraw() {
        Tests.due("freezes left", Bounds.drawnOut().side(0, 1), 2);
        Bounds.unchanged("freeze(0)", Bounds::drawnOut, game -> game.freeze(0), Bounds.NOT_POSSIBLE);
        Bounds.unchanged("freeze(7)", Bounds::drawnOut, game -> game.freeze(7), Bounds.NOT_POSSIBLE);
    }

    private static void freezeAfterTheLastCard() {
        for (int side = 0; side <= 1; side++) {
            int by = side;
            Tests.due("freezes left", Games.emptiedBy(side).side(side, 1), 2);
            Bounds.unchanged("freeze(3)", () -> Games.emptiedBy(by), game -> game.freeze(3), Bounds.NOT_POSSIBLE);
        }
    }

    // ---- 6

    private static void playOne() {
        TwinPatience game = Games.played(3, 0);
        Tests.due("play(1)", game.play(1), 1);
        Tests.due("count(3)", game.count(3), 1);
        Tests.due("count(2)", game.count(2), 0);
        Tests.due("the stock's ace", game.pile(14, 0), 1);
    }

    private static void playSixty() {
        TwinPatience game = new TwinPatience();
        Tests.due("play(60)", game.play(60), 60);
        Tests.due("moves and draws", game.count(2) + game.count(3), 60);
        Tests.due("one change", game.count(8), 1);
    }

    private static void playRefused(int... steps) {
        for (int number : steps) {
            Bounds.unchanged("play(" + number + ")", Bounds::begun, game -> game.play(number), Bounds.BAD_VALUE);
        }
    }

    private static void playRefusedAfterTheEnd() {
        Bounds.unchanged("play(0)", Bounds::drawnOut, game -> game.play(0), Bounds.BAD_VALUE);
        Bounds.unchanged("play(61)", () -> Games.emptiedBy(1), game -> game.play(61), Bounds.BAD_VALUE);
    }

    private static void plays(TwinPatience game, int moves, int draws) {
        int movesBefore = game.count(3);
        int drawsBefore = game.count(2);
        Tests.due("play(1)", game.play(1), 1);
        Tests.due("moves", game.count(3) - movesBefore, moves);
        Tests.due("draws", game.count(2) - drawsBefore, draws);
    }

    private static void playWorthNothing() {
        TwinPatience game = new TwinPatience();
        Tests.due("the best move", game.best(), 0);
        Tests.due("its points", game.ofMove(0, 2), 0);
        plays(game, 0, 1);
    }

    private static void playWorthOne() {
        TwinPatience game = Games.played(0, 39);
        Tests.due("the best move", game.best(), 1);
        Tests.due("its points", game.ofMove(1, 2), 1);
        plays(game, 1, 0);
    }

    private static void playWithoutTheTen() {
        TwinPatience game = Games.played(143, 325);
        Tests.due("the cards of the side 1", game.side(1, 2), 1);
        Tests.due("the best move's points", game.ofMove(game.best(), 2), 0);
        plays(game, 0, 1);
        Tests.due("count(1)", game.count(1), 0);
    }

    private static void playNoMove() {
        for (int steps = 4; steps <= 6; steps += 2) {
            TwinPatience game = Games.played(0, steps);
            Tests.due("moves that there are", game.count(5), 0);
            plays(game, 0, 1);
        }
    }

    private static void playNoCard() {
        TwinPatience game = Games.without(0);
        plays(game, 1, 0);
        game.undo();
        game.freeze(6);
        Tests.due("moves that there are", game.count(5), 0);
        plays(game, 0, 1);
        Tests.due("the waste", game.pile(2, 0), 0);
        Tests.due("the side to play", game.count(0), 1);
    }

    private static void playToTheLastDraw() {
        TwinPatience game = Games.played(7, 300);
        Tests.due("play(60)", game.play(60), 27);
        Tests.due("count(2)", game.count(2), 200);
        Tests.due("count(1)", game.count(1), 1);
        game.undo();
        Tests.due("play(27)", game.play(27), 27);
        Tests.due("count(1)", game.count(1), 1);
        game.undo();
        Tests.due("play(26)", game.play(26), 26);
        Tests.due("count(1)", game.count(1), 0);
    }

    private static void playToTheLastCard() {
        for (int side = 0; side <= 1; side++) {
            TwinPatience game = Games.lastOfWaste(side);
            Tests.due("play(60)", game.play(60), 1);
            Tests.due("count(1)", game.count(1), 1);
            Tests.due("side(" + side + ", 2)", game.side(side, 2), 0);
        }
    }

    private static void playAfterTheEnd() {
        for (int side = 0; side <= 1; side++) {
            playsNothing(Games.emptiedBy(side));
        }
        playsNothing(Bounds.drawnOut());
    }

    private static void playsNothing(TwinPatience over) {
        String before = Games.read(over);
        Tests.due("play(60)", over.play(60), 0);
        Tests.due("play(1)", over.play(1), 0);
        Games.same("nothing else", over, before);
        Tests.due("undo()", over.undo(), 5);
        Tests.due("count(1) before play(1)", over.count(1), 1);
        Tests.due("undo()", over.undo(), 4);
        Tests.due("count(1) before play(60)", over.count(1), 1);
        Tests.due("undo()", over.undo(), 3);
        Tests.due("count(1) before the end", over.count(1), 0);
    }

    // ---- 7

    private static TwinPatience written(TwinPatience game, String text) {
        game.wipe();
        Games.write(game, text);
        Tests.due("count(7)", game.count(7), text.length());
        return game;
    }

    private static void playAllEmpty() {
        Bounds.unchanged("playAll()", () -> written(Bounds.begun(), ""), TwinPatience::playAll, Bounds.BAD_TEXT);
    }

    private static void playAllFault() {
        for (String text : new String[] {"x", "d,", "d,d,8", "f8", "d,22>1", "d,d;d", "dd", ",d"}) {
            TwinPatience game = written(Bounds.begun(), text);
            int fault = game.fault();
            Tests.due("playAll() of " + text, game.playAll(), Bounds.BAD_TEXT);
            Tests.due("its length", game.count(7), text.length());
            Tests.due("its fault", game.fault(), fault);
            Bounds.unchanged("playAll() of " + text, () -> written(Bounds.begun(), text), TwinPatience::playAll,
                    Bounds.BAD_TEXT);
        }
    }

    private static void playAllFaultAfterTheEnd() {
        Bounds.unchanged("playAll()", Bounds::drawnOut, TwinPatience::playAll, Bounds.BAD_TEXT);
        Bounds.unchanged("playAll()", () -> written(Games.emptiedBy(0), "d,"), TwinPatience::playAll, Bounds.BAD_TEXT);
    }

    private static void playAllOne() {
        TwinPatience draws = written(new TwinPatience(), "d");
        Tests.due("playAll() of d", draws.playAll(), 1);
        Tests.due("the card", draws.pile(2, 1), 42);
        TwinPatience freezes = written(new TwinPatience(), "f7");
        Tests.due("playAll() of f7", freezes.playAll(), 1);
        Tests.due("pile(13, 2)", freezes.pile(13, 2), 3);
        TwinPatience moves = written(Games.played(3, 0), "0>21");
        Tests.due("playAll() of 0>21", moves.playAll(), 1);
        Tests.due("the card", moves.pile(21, 1), 0);
        Tests.due("count(7)", moves.count(7), 0);
    }

    private static void playAllFull() {
        TwinPatience game = written(new TwinPatience(), "f0" + ",d".repeat(29));
        Tests.due("count(7)", game.count(7), 60);
        Tests.due("playAll()", game.playAll(), 30);
        Tests.due("count(2)", game.count(2), 29);
        Tests.due("side(0, 1)", game.side(0, 1), 1);
        Tests.due("count(7) then", game.count(7), 0);
    }

    private static void playAllNone() {
        TwinPatience game = written(new TwinPatience(), "12>10,d");
        Tests.due("playAll()", game.playAll(), 0);
        Tests.due("count(7)", game.count(7), 0);
        Tests.due("count(2)", game.count(2), 0);
        Tests.due("count(8)", game.count(8), 1);
        Tests.due("undo()", game.undo(), 0);
        Tests.due("count(7)", game.count(7), 0);
    }

    private static void playAllStops() {
        TwinPatience game = written(new TwinPatience(), "d,d,0>0,d,f1");
        Tests.due("playAll()", game.playAll(), 2);
        Tests.due("count(2)", game.count(2), 2);
        Tests.due("count(6)", game.count(6), 0);
        Tests.due("count(7)", game.count(7), 0);
    }

    private static void playAllLastRefused() {
        TwinPatience game = written(new TwinPatience(), "10>12,d,21>21");
        Tests.due("playAll()", game.playAll(), 2);
        Tests.due("count(2)", game.count(2), 1);
        Tests.due("count(3)", game.count(3), 1);
        Tests.due("count(7)", game.count(7), 0);
    }

    private static void playAllFreezeRefused() {
        TwinPatience frozen = written(new TwinPatience(), "f3,f3,d");
        Tests.due("playAll()", frozen.playAll(), 1);
        Tests.due("count(2)", frozen.count(2), 0);
        TwinPatience noneLeft = written(new TwinPatience(), "f0,f1,f2,d");
        Tests.due("playAll()", noneLeft.playAll(), 2);
        Tests.due("count(2)", noneLeft.count(2), 0);
    }

    private static void playAllOverTheLastDraw() {
        TwinPatience game = written(drawn(198), "d,d,d,f0");
        Tests.due("playAll()", game.playAll(), 2);
        Tests.due("count(2)", game.count(2), 200);
        written(game, "d");
        Tests.due("playAll() after the end", game.playAll(), 0);
        Tests.due("count(7)", game.count(7), 0);
    }

    private static void playAllOverTheLastCard() {
        TwinPatience game = written(Games.lastOfWaste(1), "f0,3>17,d,d");
        Tests.due("playAll()", game.playAll(), 2);
        Tests.due("count(1)", game.count(1), 1);
        Tests.due("count(2)", game.count(2), 191);
    }

    private static void playAllNoCard() {
        TwinPatience game = written(Games.without(0), "f1,d,d,d");
        Tests.due("playAll()", game.playAll(), 4);
        Tests.due("the side to play", game.count(0), 1);
    }

    private static void playAllOneChange() {
        TwinPatience game = written(Bounds.begun(), "d,d,d,d,d,d,d,d");
        int draws = game.count(2);
        game.undo();
        game.undo();
        Tests.due("count(2)", game.count(2), draws - 1);
        Tests.due("playAll()", game.playAll(), 8);
        Tests.due("count(8)", game.count(8), 5);
        Tests.due("undo()", game.undo(), 4);
        Tests.due("count(2)", game.count(2), draws - 1);
    }
}
