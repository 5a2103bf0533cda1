/** The promises 8 to 13; "every reading along played games" in RandomRunsTest reads them all, too. */
final class ReadingsTest {
    private ReadingsTest() {
    }

    static void run() {
        Tests.run("8: pile", ReadingsTest::pile);
        Tests.run("9: card", ReadingsTest::card);
        Tests.run("10: where", ReadingsTest::where);
        Tests.run("11: side", ReadingsTest::side);
        Tests.run("12: count", ReadingsTest::count);
        Tests.run("13: ofMove", ReadingsTest::ofMove);
        Tests.run("8 to 16: what is asked changes nothing", ReadingsTest::nothingChanges);
    }

    private static void pile() {
        TwinPatience game = new TwinPatience();
        Tests.due("pile(0, 0)", game.pile(0, 0), 13);
        Tests.due("pile(5, 0)", game.pile(5, 0), 35);
        Tests.due("pile(5, 1)", game.pile(5, 1), 88);
        Tests.due("pile(2, 0)", game.pile(2, 0), 0);
        Tests.due("pile(2, 1)", game.pile(2, 1), -6);
        Tests.due("pile(21, 1)", game.pile(21, 1), -6);
        game.freeze(0);
        game.freeze(7);
        for (int pile = 0; pile < 22; pile++) {
            Tests.due("pile(" + pile + ", 2)", game.pile(pile, 2), pile == 6 || pile == 13 ? 3 : 0);
        }
    }

    private static void card() {
        TwinPatience game = new TwinPatience();
        Tests.due("card(4, 0)", game.card(4, 0), 35);
        Tests.due("card(4, 34)", game.card(4, 34), 42);
        Tests.due("card(0, 12)", game.card(0, 12), 44);
        game.draw();
        Tests.due("card(2, 0)", game.card(2, 0), 42);
        Tests.due("card(4, 34)", game.card(4, 34), -1);
        game.move(10, 12);
        Tests.due("card(12, 0)", game.card(12, 0), 84);
        Tests.due("card(12, 1)", game.card(12, 1), 70);
    }

    private static void where() {
        TwinPatience game = Games.played(11, 120);
        for (int pile = 0; pile < 22; pile++) {
            for (int place = 0; place < game.pile(pile, 0); place++) {
                int card = game.card(pile, place);
                Tests.due("where(" + card + ", 0)", game.where(card, 0), pile);
                Tests.due("where(" + card + ", 1)", game.where(card, 1), place);
            }
        }
    }

    private static void side() {
        TwinPatience game = new TwinPatience();
        for (int side = 0; side <= 1; side++) {
            int[] wanted = {0, 2, 48, 1};
            for (int what = 0; what < 4; what++) {
                Tests.due("side(" + side + ", " + what + ")", game.side(side, what), wanted[what]);
            }
        }
        game.move(10, 12);
        Tests.due("side(1, 3)", game.side(1, 3), 2);
        Tests.due("side(0, 3)", game.side(0, 3), 1);
        game.move(0, 10);
        Tests.due("side(0, 0)", game.side(0, 0), 2);
        Tests.due("side(0, 2)", game.side(0, 2), 47);
        game.draw();
        Tests.due("side(0, 2)", game.side(0, 2), 47);
        game.freeze(0);
        Tests.due("side(0, 1)", game.side(0, 1), 2);
        Tests.due("side(1, 1)", game.side(1, 1), 1);
        for (int number = 0; number < 40; number++) {
            longestHouses(Games.played(number, 6 * number));
        }
    }

    private static void longestHouses(TwinPatience game) {
        for (int side = 0; side <= 1; side++) {
            int longest = 0;
            for (int house = 6 + 4 * side; house < 10 + 4 * side; house++) {
                longest = Math.max(longest, game.pile(house, 0));
            }
            Tests.due("side(" + side + ", 3)", game.side(side, 3), longest);
        }
    }

    private static void count() {
        TwinPatience game = new TwinPatience();
        int[] fresh = {0, 0, 0, 0, 0, 3, 0, 0, 0};
        for (int what = 0; what < 9; what++) {
            Tests.due("count(" + what + ")", game.count(what), fresh[what]);
        }
        game.move(10, 12);
        game.freeze(6);
        game.draw();
        game.put(RandomRunsTest.packed("d,d"));
        int[] later = {1, 0, 1, 1, 0, 8, 1, 3, 3};
        for (int what = 0; what < 9; what++) {
            Tests.due("count(" + what + ")", game.count(what), later[what]);
        }
        TwinPatience aces = Games.played(3, 0);
        aces.move(0, 14);
        Tests.due("count(4)", aces.count(4), 1);
    }

    private static void ofMove() {
        TwinPatience game = new TwinPatience();
        int[][] moves = {{10, 12, 0}, {10, 13, 0}, {11, 8, 0}};
        for (int move = 0; move < moves.length; move++) {
            for (int what = 0; what < 3; what++) {
                Tests.due("ofMove(" + move + ", " + what + ")", game.ofMove(move, what), moves[move][what]);
            }
        }
        inOrder(Games.played(12345, 0));
        inOrder(Games.played(4, 77));
    }

    private static void inOrder(TwinPatience game) {
        int before = -1;
        for (int move = 0; move < game.count(5); move++) {
            int number = 22 * game.ofMove(move, 0) + game.ofMove(move, 1);
            Tests.holds("by the pile from, then by the pile to", number > before);
            before = number;
            int points = game.ofMove(move, 2);
            Tests.due("move " + move, game.move(game.ofMove(move, 0), game.ofMove(move, 1)), points);
            game.undo();
        }
    }

    private static void nothingChanges() {
        TwinPatience game = Games.played(6, 90);
        game.freeze(3);
        Games.write(game, "d,d>");
        String before = Games.read(game);
        for (int what = -1; what <= 9; what++) {
            game.pile(6, what);
            game.card(6, what);
            game.where(50, what);
            game.side(1, what);
            game.count(what);
            game.ofMove(0, what);
            game.ifPlayed(200, what);
            game.buried(what);
        }
        game.best();
        game.fault();
        Tests.due("count(8)", game.count(8), 4);
        Games.same("nothing changed", game, before);
    }
}
