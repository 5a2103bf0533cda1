/** The promises 1 to 7. */
final class ChangesTest {
    /** Deal, steps by rule, then a move from, to, and its points: each way that a card can go, for each side. */
    private static final int[][] POINTS = {
        {3, 0, 0, 14, 3}, {2, 1, 1, 14, 3}, // stock to aces
        {0, 0, 12, 14, 2}, {72, 4, 8, 15, 2}, // the other side's house to aces
        {7, 0, 6, 14, 1}, {232, 4, 13, 14, 1}, // own house to aces
        {151, 2, 2, 14, 1}, {173, 3, 3, 14, 1}, // waste to aces
        {10, 0, 0, 8, 2}, {15, 1, 1, 11, 2}, // stock to own house
        {3, 0, 0, 13, 2}, {4, 1, 1, 7, 2}, // stock to the other side's house
        {271, 2, 0, 3, 2}, {189, 1, 1, 2, 2}, // stock to the other side's waste
        {32, 2, 2, 3, 1}, {33, 3, 3, 2, 1}, // waste to the other side's waste
        {49, 2, 8, 3, 1}, {12, 1, 11, 2, 1}, // own house to the other side's waste
        {32, 2, 13, 3, 1}, {5, 1, 6, 2, 1}, // the other side's house to the other side's waste
        {104, 2, 2, 10, 0}, {254, 3, 3, 8, 0}, {78, 2, 2, 6, 0}, {35, 3, 3, 12, 0}, // waste to a house
        {1, 0, 10, 12, 0}, {1, 0, 11, 8, 0}, {0, 0, 8, 10, 0}, {3, 0, 7, 8, 0}, // house to house
        {4, 1, 6, 8, 0}, {2, 1, 7, 11, 0}, {1, 1, 11, 8, 0}, {1, 1, 10, 12, 0},
    };

    private ChangesTest() {
    }

    static void run() {
        Tests.run("1: a new object is dealt by 1", ChangesTest::newObject);
        Tests.run("2: deal: shuffled by the number", ChangesTest::dealShuffles);
        Tests.run("2: deal: everything begins anew", ChangesTest::dealBeginsAnew);
        Tests.run("3: move: points", ChangesTest::movePoints);
        Tests.run("3: move: black and red", ChangesTest::moveColours);
        Tests.run("3: move: a card changes its pile", ChangesTest::moveMoves);
        Tests.run("3: move: every pair of piles", ChangesTest::movePairs);
        Tests.run("4: draw: hands and turns", ChangesTest::drawHands);
        Tests.run("4: draw: hands are turned over, the 200th draw is the last", ChangesTest::drawTurnsOver);
        Tests.run("5: freeze: three draws long", ChangesTest::freezeThaws);
        Tests.run("6: play: by rule", ChangesTest::playByRule);
        Tests.run("7: playAll: steps of all kinds", ChangesTest::playAllSteps);
    }

    private static void newObject() {
        TwinPatience fresh = new TwinPatience();
        Tests.due("pile(0, 1)", fresh.pile(0, 1), 44);
        Tests.due("pile(1, 1)", fresh.pile(1, 1), 60);
        Tests.due("count(8)", fresh.count(8), 0);
        Tests.due("count(7)", fresh.count(7), 0);
        Tests.due("undo()", fresh.undo(), -5);
        Tests.due("restore(0)", fresh.restore(0), -5);
        TwinPatience dealt = new TwinPatience();
        dealt.deal(1);
        Games.same("a new object is as after deal(1)", fresh, Games.read(dealt));
    }

    private static void dealShuffles() {
        int[][] tops = {{0, 15, 84}, {1, 44, 60}, {7, 33, 83}, {2147483647, 40, 77}};
        for (int[] row : tops) {
            TwinPatience game = new TwinPatience();
            Tests.due("deal(" + row[0] + ")", game.deal(row[0]), row[1]);
            Tests.due("top of stock 0", game.pile(0, 1), row[1]);
            Tests.due("top of stock 1", game.pile(1, 1), row[2]);
        }
        TwinPatience game = new TwinPatience();
        game.deal(0);
        int[] houses = {17, 43, 20, 41, 86, 60, 52, 69};
        for (int i = 0; i < 8; i++) {
            Tests.due("size of house " + i, game.pile(6 + i, 0), 1);
            Tests.due("card of house " + i, game.card(6 + i, 0), houses[i]);
        }
        int[] handEnds = {game.card(4, 0), game.pile(4, 1), game.card(5, 0), game.pile(5, 1)};
        int[] wanted = {5, 0, 63, 56};
        for (int i = 0; i < 4; i++) {
            Tests.due("end " + i + " of the hands", handEnds[i], wanted[i]);
        }
        int[] sizes = {13, 13, 0, 0, 35, 35};
        for (int pile = 0; pile < 22; pile++) {
            Tests.due("size of " + pile, game.pile(pile, 0), pile < 6 ? sizes[pile] : pile < 14 ? 1 : 0);
        }
    }

    private static void dealBeginsAnew() {
        TwinPatience game = Games.played(5, 100);
        game.freeze(2);
        game.put('d');
        game.save(1);
        Tests.due("deal(9)", game.deal(9), new Model().deal(9));
        TwinPatience fresh = new TwinPatience();
        fresh.deal(9);
        fresh.put('d');
        Games.same("as a new game, with the pad as it was", game, Games.read(fresh));
        Tests.due("count(8)", game.count(8), 5);
        Tests.due("undo()", game.undo(), 4);
        Tests.due("freezes of the side before the deal", game.pile(8, 2), 3);
        Tests.holds("draws before the deal", game.count(2) > 0 && game.restore(1) == game.count(2));
        for (int house = 0; house < 8; house++) {
            game = new TwinPatience();
            game.freeze(house);
            game.deal(1);
            Tests.due("no house is frozen", game.count(6), 0);
            Tests.due("the freezes are back", game.side(0, 1), 2);
        }
        game = Games.drawnOut();
        game.deal(3);
        Tests.due("count(1)", game.count(1), 0);
        Tests.due("count(2)", game.count(2), 0);
        Tests.holds("draw()", game.draw() >= 0);
    }

    private static void movePoints() {
        for (int[] row : POINTS) {
            TwinPatience game = Games.played(row[0], row[1]);
            int side = game.count(0);
            int points = game.side(side, 0);
            int others = game.side(1 - side, 0);
            String call = "deal " + row[0] + ", move(" + row[2] + ", " + row[3] + ")";
            Tests.due(call, game.move(row[2], row[3]), row[4]);
            Tests.due(call + ": points", game.side(side, 0), points + row[4]);
            Tests.due(call + ": the other's points", game.side(1 - side, 0), others);
        }
    }

    /** The last black cards and the first red ones of both packs. */
    private static void moveColours() {
        int[][] rows = {{9, 8, 7, 26}, {13, 11, 9, 78}, {9, 13, 9, 89}, {66, 10, 12, 102}};
        for (int[] row : rows) {
            TwinPatience game = Games.played(row[0], 0);
            String call = "deal " + row[0] + ", move(" + row[1] + ", " + row[2] + ")";
            Tests.due(call, game.move(row[1], row[2]), 0);
            Tests.due(call + ": the card", game.pile(row[2], 1), row[3]);
        }
    }

    private static void moveMoves() {
        TwinPatience game = new TwinPatience();
        Tests.due("move(10, 12)", game.move(10, 12), 0);
        Tests.due("pile(10, 0)", game.pile(10, 0), 0);
        Tests.due("pile(10, 1)", game.pile(10, 1), -6);
        Tests.due("card(12, 0)", game.card(12, 0), 84);
        Tests.due("card(12, 1)", game.card(12, 1), 70);
        Tests.due("count(3)", game.count(3), 1);
        Tests.due("count(2)", game.count(2), 0);
        Tests.due("count(0): the turn goes on", game.count(0), 0);
        Tests.due("count(8)", game.count(8), 1);
        Tests.due("move(0, 10): any card to an empty house", game.move(0, 10), 2);
        Tests.due("count(3)", game.count(3), 2);
    }

    /** All 22 times 22 pairs, in positions from the beginning to the end of games, against the model. */
    private static void movePairs() {
        for (int number = 0; number < 24; number++) {
            for (int steps = 0; steps <= 300; steps += 60) {
                for (int half = 0; half <= 11; half += 11) {
                    movePairs(number, steps + number, half);
                }
            }
        }
    }

    private static void movePairs(int number, int steps, int half) {
        TwinPatience game = Games.played(number, steps);
        Model model = new Model();
        model.deal(number);
        model.now.play(steps);
        game.freeze(number % 8);
        model.freeze(number % 8);
        for (int from = half; from < half + 11; from++) {
            for (int to = 0; to < 22; to++) {
                int want = new Model.State(model.now).move(from, to);
                int got = game.move(from, to);
                Tests.due("deal " + number + ", steps " + steps + ", move(" + from + ", " + to + ")", got, want);
                if (got >= 0) {
                    game.undo();
                }
            }
        }
    }

    private static void drawHands() {
        TwinPatience game = new TwinPatience();
        int[] drawn = {42, 88, 46, 92, 13, 55, 22, 76, 43, 74};
        for (int i = 0; i < drawn.length; i++) {
            Tests.due("count(0)", game.count(0), i % 2);
            Tests.due("draw()", game.draw(), drawn[i]);
            Tests.due("top of the waste", game.pile(2 + i % 2, 1), drawn[i]);
            Tests.due("size of the waste", game.pile(2 + i % 2, 0), 1 + i / 2);
            Tests.due("size of the hand", game.pile(4 + i % 2, 0), 34 - i / 2);
            Tests.due("count(2)", game.count(2), i + 1);
        }
        Tests.due("count(3)", game.count(3), 0);
        Tests.due("count(8)", game.count(8), 6);
    }

    private static void drawTurnsOver() {
        TwinPatience game = new TwinPatience();
        int[] drawn = new int[200];
        for (int i = 0; i < 200; i++) {
            Tests.due("count(1) before draw " + i, game.count(1), 0);
            drawn[i] = game.draw();
            if (i >= 70) {
                Tests.due("draw " + i, drawn[i], drawn[i - 70]);
            }
        }
        Tests.due("size of the waste", game.pile(2, 0), 30);
        Tests.due("size of the hand", game.pile(5, 0), 5);
        Tests.due("lowest card of the waste", game.card(2, 0), 42);
        Tests.due("lowest card of the hand", game.card(5, 0), drawn[69]);
        Tests.due("count(0)", game.count(0), 0);
        Tests.due("count(1)", game.count(1), 1);
        Tests.due("draw()", game.draw(), -5);
        Tests.due("count(2)", game.count(2), 200);
        Tests.due("undo()", game.undo(), 5);
        Tests.due("count(1)", game.count(1), 0);
        Tests.due("the 200th draw again", game.draw(), drawn[199]);
    }

    private static void freezeThaws() {
        TwinPatience game = new TwinPatience();
        Tests.due("freeze(0)", game.freeze(0), 1);
        Tests.due("count(8)", game.count(8), 1);
        Tests.due("side(0, 1)", game.side(0, 1), 1);
        Tests.due("side(1, 1)", game.side(1, 1), 2);
        Tests.due("the turn goes on", game.count(0), 0);
        Tests.due("freeze(7): a house of the other side", game.freeze(7), 0);
        for (int draws = 0; draws <= 4; draws++) {
            Tests.due("pile(6, 2)", game.pile(6, 2), Math.max(0, 3 - draws));
            Tests.due("pile(13, 2)", game.pile(13, 2), Math.max(0, 3 - draws));
            Tests.due("count(6)", game.count(6), draws < 3 ? 2 : 0);
            game.draw();
        }
        Tests.due("the side 1 freezes it again", game.freeze(0), 1);
        Tests.due("pile(6, 2)", game.pile(6, 2), 3);
        Tests.due("move(10, 12)", game.move(10, 12), 0);
        Tests.due("moves do not count", game.pile(6, 2), 3);
    }

    private static void playByRule() {
        TwinPatience game = new TwinPatience();
        TwinPatience byHand = new TwinPatience();
        Tests.due("play(60)", game.play(60), 60);
        for (int step = 0; step < 60; step++) {
            int best = byHand.best();
            if (best >= 0 && byHand.ofMove(best, 2) >= 1) {
                byHand.move(byHand.ofMove(best, 0), byHand.ofMove(best, 1));
            } else {
                byHand.draw();
            }
        }
        Games.same("play(60) is sixty best moves and draws", game, Games.read(byHand));
        Tests.due("count(8)", game.count(8), 1);
        Tests.due("undo()", game.undo(), 0);
        Tests.due("count(2)", game.count(2), 0);
        Tests.due("a move worth 0 is not made", game.best(), 0);
        Tests.due("play(1)", game.play(1), 1);
        Tests.due("count(2)", game.count(2), 1);
        Tests.due("count(3)", game.count(3), 0);
        TwinPatience last = Games.played(143, 325);
        Tests.due("the last card could go for 0 points, and 10", last.side(1, 2), 1);
        Tests.due("best()", last.best(), 0);
        Tests.due("play(1)", last.play(1), 1);
        Tests.due("it was a draw", last.count(2), 198);
        Tests.due("count(1)", last.count(1), 0);
    }

    private static void playAllSteps() {
        TwinPatience game = new TwinPatience();
        Games.write(game, "10>12,f0,d,f7,d,12>10,d");
        TwinPatience byHand = new TwinPatience();
        byHand.move(10, 12);
        byHand.freeze(0);
        byHand.draw();
        byHand.freeze(7);
        byHand.draw();
        byHand.move(12, 10);
        byHand.draw();
        Tests.due("playAll()", game.playAll(), 7);
        Games.same("the steps are draw(), freeze() and move()", game, Games.read(byHand));
        Tests.due("count(7)", game.count(7), 0);
        Tests.due("count(8): one change with all of them", game.count(8), 1);
        Tests.due("undo()", game.undo(), 0);
        Tests.due("count(3)", game.count(3), 0);
        Tests.due("the pad stays empty", game.count(7), 0);
        Games.write(game, "d,d,d,d,d,d,d,d,d,d,d,d,d,d,d,d,d,d,d,d,d,d,d,d,d,d,d,d,d,d");
        Tests.due("count(7)", game.count(7), 59);
        Tests.due("playAll()", game.playAll(), 30);
        Tests.due("count(2)", game.count(2), 30);
    }
}
