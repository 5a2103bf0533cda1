/** The promises 14 to 16. */
final class WhatIfTest {
    private WhatIfTest() {
    }

    static void run() {
        Tests.run("14: best", WhatIfTest::best);
        Tests.run("15: ifPlayed: as play() makes it", WhatIfTest::ifPlayed);
        Tests.run("16: buried: cards above", WhatIfTest::buried);
        Tests.run("16: buried: what fits the aces' piles", WhatIfTest::buriedThatFits);
    }

    private static void best() {
        for (int number = 0; number < 100; number++) {
            TwinPatience game = Games.played(number, 3 * number);
            int found = game.count(5);
            int best = found == 0 ? -6 : 0;
            for (int move = 0; move < found; move++) {
                best = game.ofMove(move, 2) > game.ofMove(best, 2) ? move : best;
            }
            Tests.due("deal " + number + ", best()", game.best(), best);
        }
        TwinPatience ace = Games.played(3, 0);
        Tests.due("the stock's ace to the first aces' pile", ace.ofMove(ace.best(), 1), 14);
        Tests.due("its points", ace.ofMove(ace.best(), 2), 3);
    }

    private static void ifPlayed() {
        for (int steps = 1; steps <= 200; steps += steps < 5 ? 1 : 39) {
            TwinPatience game = Games.played(17, 31);
            game.freeze(2);
            TwinPatience then = Games.played(17, 31);
            then.freeze(2);
            for (int left = steps; left > 0; left -= 60) {
                then.play(Math.min(left, 60));
            }
            String call = "ifPlayed(" + steps + ", ";
            Tests.due(call + "0)", game.ifPlayed(steps, 0), then.side(0, 0));
            Tests.due(call + "1)", game.ifPlayed(steps, 1), then.side(1, 0));
            Tests.due(call + "2)", game.ifPlayed(steps, 2), then.count(4));
            Tests.due(call + "3)", game.ifPlayed(steps, 3), then.count(2) - game.count(2));
        }
    }

    private static void buried() {
        TwinPatience game = Games.played(11, 120);
        for (int card = 0; card < 104; card++) {
            int above = game.pile(game.where(card, 0), 0) - 1 - game.where(card, 1);
            Tests.due("buried(" + card + ") % 1000", game.buried(card) % 1000, above);
        }
    }

    private static void buriedThatFits() {
        for (int steps = 0; steps <= 180; steps += 60) {
            TwinPatience game = Games.played(0, steps);
            boolean[] fits = new boolean[52];
            for (int pile = 14; pile <= 21; pile++) {
                int top = game.pile(pile, 1);
                for (int card = 0; card < 52; card++) {
                    boolean next = top >= 0 && card / 13 == top % 52 / 13 && card % 13 == top % 13 + 1;
                    fits[card] |= top < 0 ? card % 13 == 0 : next;
                }
            }
            for (int card = 0; card < 104; card++) {
                Tests.due("buried(" + card + ") / 1000", game.buried(card) / 1000, fits[card % 52] ? 1 : 0);
            }
        }
    }
}
