/** Positions that the tests begin from, and what can be read of one. */
final class Games {
    /** Deal 1: each ends with the move by which the side has nothing in its hand and waste any more, but a stock. */
    private static final String SIDE_0_WITHOUT =
            "10>13,d,d,2>10,d,d,2>9,d,d,2>21,d,d,2>7,d,d,2>13,d,d,2>7,8>10,d,d,2>8,d,d,2>15,11>10,d,d,2>7,12>7,8>3,d,d,"
            + "2>8,d,d,2>9,6>3,d,d,2>13,d,d,2>6,d,d,2>11,d,3>13,d,2>12,d,d,2>7,6>3,8>13,d,d,2>6,d,d,2>8,d,d,2>12,6>8,d,d,"
            + "2>6,d,d,d,d,9>3,2>3,d,d,2>12,d,d,2>15,2>3,d,d,2>3,d,d,6>3,2>6,d,d,11>12,2>11,d,d,2>12,d,d,12>3,9>3,2>3,d,d,"
            + "2>3,d,d,2>11,d,d,d,d,2>21,d,d,d,d,2>11,9>11,2>9,8>11,8>3,2>8";
    private static final String SIDE_1_WITHOUT =
            "11>8,10>13,d,d,d,3>11,d,d,3>10,d,2>19,d,9>2,3>9,d,d,3>6,11>6,d,d,3>6,d,d,3>11,d,d,d,2>21,10>21,d,3>10,d,d,"
            + "3>7,d,d,d,d,3>11,10>2,3>10,13>2,d,d,3>19,9>2,8>9,8>2,3>2,d,d,3>8,d,d,8>2,3>8,d,d,3>20,d,d,3>13,12>2,10>2,d,"
            + "d,3>12,d,d,d,d,3>10,3>10,d,d,d,d,10>2,3>10,12>10,d,d,3>12,11>2,3>2,d,d,d,d,3>6,d,d,3>16,9>16,3>9,8>16,12>6,"
            + "d,d,3>12,d,d,3>8,d,d,3>16,d,d,3>8,d,d,3>13,d,d,3>18,d,d,3>7,d,d,3>13,d,d,3>21,d,d,3>7";
    /** Deal 3: it leaves the side 0, which is to play, one card of its own, on its stock. */
    private static final String LAST_OF_STOCK =
            "0>18,d,d,0>3,6>18,2>6,13>6,0>13,8>13,7>13,0>7,d,d,2>8,13>3,8>3,d,d,2>8,d,d,13>3,2>13,9>8,d,d,2>9,11>3,d,d,"
            + "2>13,d,d,2>11,d,d,2>7,d,d,2>9,d,d,2>13,d,d,2>3,10>7,d,d,2>10,d,d,2>16,d,d,d,d,2>7,0>3,d,d,9>3,12>9,2>9,d,d,"
            + "2>12,10>12,2>10,d,3>17,6>17,d,0>6,d,d,2>19,6>19,6>13,2>6,d,d,2>17,12>3,0>3,d,d,d,d,d,d,2>15,d,3>14,9>19,d,"
            + "2>15,d,3>10,d,d,d,2>8,d,d,2>7,11>7,2>11,2>10,d,d,2>18,2>18,6>3,0>6,0>6,0>16,13>16,13>19,11>19,d,d,2>11,d,d,"
            + "2>10,11>10,d,d,2>11,d,d,d,d,2>7,d,d,2>8,0>8,12>8,2>12,13>18,d,d,7>3,6>8,6>3,13>6,13>7,2>13,6>7,0>6,d,d,9>3,"
            + "d,d,d,3>8,9>8,d";
    /** Deal 1: it ends with the side 0 to play, and a house, the pile 7, that reaches from a king to an ace. */
    private static final String FULL_HOUSE =
            "10>12,d,d,d,13>2,d,11>8,9>11,d,d,7>13,d,11>2,d,6>7,13>6,d,3>7,6>7,d,d,3>7,d,2>7,d,d,d,d,12>3,d,12>9,d,2>7,"
            + "9>7,d,3>11,3>7,d,0>12,0>3,0>12,0>7,d,d,d,1>10,d,2>7,d,d,d,10>2,11>2,d,d,3>7,3>2,3>7,d,0>7";

    private Games() {
    }

    /** A game that was dealt and played by rule; it costs steps / 60 + 2 calls. */
    static TwinPatience played(int number, int steps) {
        TwinPatience game = new TwinPatience();
        game.deal(number);
        for (int left = steps; left > 0; left -= 60) {
            game.play(Math.min(left, 60));
        }
        return game;
    }

    /** Over by its 200th draw; it costs 208 calls or fewer. */
    static TwinPatience drawnOut() {
        TwinPatience game = new TwinPatience();
        for (int i = 0; i < 200; i++) {
            game.draw();
        }
        return game;
    }

    /** The side is to play; its hand and its waste are empty, its stock is not; it costs some 130 calls. */
    static TwinPatience without(int side) {
        TwinPatience game = new TwinPatience();
        follow(game, side == 0 ? SIDE_0_WITHOUT : SIDE_1_WITHOUT);
        return game;
    }

    /** The side 0 is to play, its last card is on its stock; it costs some 160 calls. */
    static TwinPatience lastOfStock() {
        TwinPatience game = new TwinPatience();
        game.deal(3);
        follow(game, LAST_OF_STOCK);
        return game;
    }

    /** The side is to play, its last card is on its waste. */
    static TwinPatience lastOfWaste(int side) {
        return side == 0 ? played(163, 341) : played(676, 348);
    }

    /** Over, because the side has no cards any more. */
    static TwinPatience emptiedBy(int side) {
        return side == 0 ? played(163, 342) : played(676, 349);
    }

    /** The pile 7 has thirteen cards; it costs some 60 calls. */
    static TwinPatience fullHouse() {
        TwinPatience game = new TwinPatience();
        follow(game, FULL_HOUSE);
        return game;
    }

    /** Does the steps of a text by move() and draw(). */
    private static void follow(TwinPatience game, String text) {
        for (String step : text.split(",")) {
            if (step.equals("d")) {
                game.draw();
            } else {
                String[] piles = step.split(">");
                Tests.holds(step + " is a move", game.move(Integer.parseInt(piles[0]), Integer.parseInt(piles[1])) >= 0);
            }
        }
    }

    static void write(TwinPatience game, String text) {
        for (int i = 0; i < text.length(); i += 8) {
            game.put(RandomRunsTest.packed(text.substring(i, Math.min(i + 8, text.length()))));
        }
    }

    /** All that can be read of the cards, the numbers, the freezes and the pad, by some 150 calls. */
    static String read(TwinPatience game) {
        StringBuilder all = new StringBuilder();
        for (int pile = 0; pile < 22; pile++) {
            all.append(pile).append(':');
            int size = game.pile(pile, 0);
            for (int place = 0; place < size; place++) {
                all.append(game.card(pile, place)).append(' ');
            }
        }
        for (int house = 6; house <= 13; house++) {
            all.append("frozen ").append(game.pile(house, 2)).append(' ');
        }
        for (int side = 0; side <= 1; side++) {
            all.append("side ").append(game.side(side, 0)).append(' ').append(game.side(side, 1)).append(' ');
        }
        for (int what = 0; what <= 3; what++) {
            all.append("count ").append(game.count(what)).append(' ');
        }
        return all.append("pad ").append(game.count(7)).append(' ').append(game.fault()).toString();
    }

    static void same(String what, TwinPatience game, String before) {
        Tests.holds(what, read(game).equals(before));
    }
}
