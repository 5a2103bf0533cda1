/** The promises 14 to 16. */
final class WhatIfTest {
    private WhatIfTest() {
    }

    static void run() {
        Tests.run("14: best", WhatIfTest::best);
        Tests.run("15: ifPlayed: as play() makes it", WhatIfTest::ifPlayed);
        Tests.run("15: ifPlayed: wrong arguments", WhatIfTest::ifPlayedWrong);
        Tests.run("16: buried: cards above", WhatIfTest::buried);
        Tests.run("16: buried: what fits the aces' piles", WhatIfTest::buriedThatFits);
        Tests.run("16: buried: wrong cards", WhatIfTest::buriedWrong);
    }

    private static void best() {
        for (int number = 0; number < 100; number++) {
            TwinPatience game = Games.played(number, 3 * number);
            int found = game.count(5);
            int best = found == 0 ? -6 : 0;
            for (int move = 0; move < found; move++) {
                best = game.ofMove(move, 2) > game.ofMove(best, 2) ? move : best;
            }
            Tests.due("deal " + number + ", best()", game.best(), best);
        }
        TwinPatience ace = Games.played(3, 0);
        Tests.due("the stock's ace to the first aces' pile", ace.ofMove(ace.best(), 1), 14);
        Tests.due("its points", ace.ofMove(ace.best(), 2), 3);
        TwinPatience last = Games.played(711, 353);
        Tests.due("a point is more than the 10, which all moves of the last card bring", last.best(), 8);
        Tests.due("best() after the end", Games.drawnOut().best(), -6);
    }

    private static void ifPlayed() {
        for (int steps = 1; steps <= 200; steps += steps < 5 ? 1 : 39) {
            TwinPatience game = Games.played(17, 31);
            game.freeze(2);
            TwinPatience then = Games.played(17, 31);
            then.freeze(2);
            for (int left = steps; left > 0; left -= 60) {
                then.play(Math.min(left, 60));
            }
            String call = "ifPlayed(" + steps + ", ";
            Tests.due(call + "0)", game.ifPlayed(steps, 0), then.side(0, 0));
            Tests.due(call + "1)", game.ifPlayed(steps, 1), then.side(1, 0));
            Tests.due(call + "2)", game.ifPlayed(steps, 2), then.count(4));
            Tests.due(call + "3)", game.ifPlayed(steps, 3), then.count(2) - game.count(2));
        }
        TwinPatience toTheEnd = Games.played(7, 300);
        int draws = toTheEnd.count(2);
        Tests.due("ifPlayed(200, 0)", toTheEnd.ifPlayed(200, 0), 87);
        Tests.due("ifPlayed(200, 1)", toTheEnd.ifPlayed(200, 1), 75);
        Tests.due("ifPlayed(200, 2)", toTheEnd.ifPlayed(200, 2), 71);
        Tests.due("ifPlayed(200, 3)", toTheEnd.ifPlayed(200, 3), 200 - draws);
        TwinPatience emptied = Games.played(676, 348);
        int points = emptied.side(1, 0);
        Tests.due("with the 10", emptied.ifPlayed(200, 1), points + 11);
        Tests.due("ifPlayed(200, 3)", emptied.ifPlayed(200, 3), 0);
        TwinPatience over = Games.drawnOut();
        Tests.due("after the end", over.ifPlayed(1, 3), 0);
        Tests.due("after the end", over.ifPlayed(200, 0), 0);
    }

    private static void ifPlayedWrong() {
        TwinPatience game = new TwinPatience();
        Tests.due("ifPlayed(0, 0)", game.ifPlayed(0, 0), -2);
        Tests.due("ifPlayed(201, 0)", game.ifPlayed(201, 0), -2);
        Tests.due("ifPlayed(200, 4)", game.ifPlayed(200, 4), -2);
        Tests.due("ifPlayed(200, -1)", game.ifPlayed(200, -1), -2);
        Tests.due("ifPlayed(least, 0)", game.ifPlayed(Integer.MIN_VALUE, 0), -2);
        Tests.due("ifPlayed(greatest, 0)", game.ifPlayed(Integer.MAX_VALUE, 0), -2);
        for (int never : Games.NEVER) {
            Tests.due("ifPlayed(1, " + never + ")", game.ifPlayed(1, never), -2);
        }
    }

    private static void buried() {
        TwinPatience game = new TwinPatience();
        Tests.due("top of the stock", game.buried(44), 0);
        Tests.due("top of the hand", game.buried(42), 0);
        Tests.due("lowest card of the hand", game.buried(35), 34);
        Tests.due("an ace in the stock", game.buried(0), 1010);
        game.move(10, 12);
        Tests.due("under one card", game.buried(84), 1);
        Tests.due("on one card", game.buried(70), 0);
    }

    private static void buriedThatFits() {
        TwinPatience game = Games.played(3, 0);
        int ace = game.pile(0, 1);
        int suit = ace / 13;
        for (int card = 0; card < 104; card++) {
            Tests.due("fits, card " + card, game.buried(card) / 1000, card % 13 == 0 ? 1 : 0);
        }
        game.move(0, 14);
        for (int card = 0; card < 104; card++) {
            boolean next = card % 13 == 1 && card % 52 / 13 == suit;
            Tests.due("fits then, card " + card, game.buried(card) / 1000, card % 13 == 0 || next ? 1 : 0);
        }
        TwinPatience over = Games.drawnOut();
        for (int card = 0; card < 104; card++) {
            Tests.holds("none fits after the end", over.buried(card) < 1000);
        }
        TwinPatience frozen = Games.played(7, 0);
        frozen.freeze(0);
        Tests.due("an ace in a frozen house", frozen.buried(0), 1000);
        Tests.due("it can't be moved", frozen.move(6, 14), -5);
    }

    private static void buriedWrong() {
        TwinPatience game = new TwinPatience();
        for (int never : Games.NEVER) {
            Tests.due("buried(" + never + ")", game.buried(never), -1);
        }
        Tests.due("buried(104)", game.buried(104), -1);
        Tests.holds("buried(103)", game.buried(103) >= 0);
    }
}
