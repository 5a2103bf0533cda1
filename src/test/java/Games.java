/** Positions that the tests begin from, and what can be read of one. */
final class Games {
    /** Numbers that no argument may be, whatever its limits. */
    static final int[] NEVER = {-1, -2, -6, Integer.MIN_VALUE, 105, 1000, Integer.MAX_VALUE};

    /** A game in which the side 0, in its last step, draws though its hand and waste are empty. */
    static final int WITHOUT_A_CARD = 0;
    static final String TO_AN_EMPTY_HAND =
            "12>21,8>10,d,1>8,8>10,1>8,1>12,1>21,1>8,12>8,1>12,d,2>16,d,d,d,3>20,d,d,d,2>10,7>10,2>7,d,d,2>13,2>3,d,d,"
            + "6>3,2>6,d,1>2,d,d,d,d,d,12>3,2>12,8>3,9>8,2>9,d,d,d,d,2>19,d,d,2>11,12>3,2>12,d,d,2>11,9>11,2>9,2>12,d,"
            + "3>14,1>2,d,d,d,8>3,13>3,13>11,2>13,10>3,d,3>10,3>11,3>8,3>20,8>20,11>20,10>20,d,12>3,7>3,2>7,d,d,11>3,"
            + "2>11,10>3,d,3>10,d,2>12,d,3>11,d,2>14,d,d,d,3>12,13>12,3>13,d,d,3>6,d,d,d,2>3,2>3,6>3,d,3>6,1>2,d,d,"
            + "3>9,d,2>9,2>9,d,3>13,d,13>3,d,3>13,3>6,1>2,d,d,d,2>3,12>3,d,3>12,d,d,3>7,1>7,1>20,1>8,d,11>3,8>3,d,3>8,"
            + "3>11,3>10,d,2>15,2>10,2>20,10>3,d,3>10,3>21,10>21,d,2>11,d,3>8,d,7>3,d,3>7,d,d,3>7,d,d,d,2>12,6>3,13>3,"
            + "13>12,d,3>13,13>12,3>6,3>21,6>21,12>21,d,2>21,8>3,d,3>13,3>14,13>8,d,2>13,13>12,d,3>13,d,2>14,7>3,d,3>7,"
            + "3>9,d,2>13,9>3,7>3,d,3>13,3>9,3>7,d,2>15,d,3>6,d,2>15,6>3,d,3>6,3>14,6>14,d,2>15,d,d,d,d,d,3>18,d,2>6,d,"
            + "3>18,d,2>3,d,d,d,3>14,d,d,d,d,3>13,d,13>3,d,3>13,d,2>3";

    private Games() {
    }

    /** A game that was dealt and played by rule; it costs steps / 60 + 2 calls. */
    static TwinPatience played(int number, int steps) {
        TwinPatience game = new TwinPatience();
        game.deal(number);
        for (int left = steps; left > 0; left -= 60) {
            game.play(Math.min(left, 60));
        }
        return game;
    }

    /** Over by its 200th draw; it costs 208 calls or fewer. */
    static TwinPatience drawnOut() {
        TwinPatience game = new TwinPatience();
        for (int i = 0; i < 200; i++) {
            game.draw();
        }
        return game;
    }

    /** Does the steps of a text by move() and draw(). */
    static void follow(TwinPatience game, String text) {
        for (String step : text.split(",")) {
            if (step.equals("d")) {
                game.draw();
            } else {
                String[] piles = step.split(">");
                Tests.holds(step + " is a move", game.move(Integer.parseInt(piles[0]), Integer.parseInt(piles[1])) >= 0);
            }
        }
    }

    static void write(TwinPatience game, String text) {
        for (int i = 0; i < text.length(); i += 8) {
            game.put(RandomRunsTest.packed(text.substring(i, Math.min(i + 8, text.length()))));
        }
    }

    /** All that can be read of the cards, the numbers, the freezes and the pad, by some 150 calls. */
    static String read(TwinPatience game) {
        StringBuilder all = new StringBuilder();
        for (int pile = 0; pile < 22; pile++) {
            all.append(pile).append(':');
            int size = game.pile(pile, 0);
            for (int place = 0; place < size; place++) {
                all.append(game.card(pile, place)).append(' ');
            }
        }
        for (int house = 6; house <= 13; house++) {
            all.append("frozen ").append(game.pile(house, 2)).append(' ');
        }
        for (int side = 0; side <= 1; side++) {
            all.append("side ").append(game.side(side, 0)).append(' ').append(game.side(side, 1)).append(' ');
        }
        for (int what = 0; what <= 3; what++) {
            all.append("count ").append(game.count(what)).append(' ');
        }
        return all.append("pad ").append(game.count(7)).append(' ').append(game.fault()).toString();
    }

    static void same(String what, TwinPatience game, String before) {
        Tests.holds(what, read(game).equals(before));
    }
}
