import java.util.function.Supplier;
import java.util.function.ToIntFunction;

/** What the tests of boundary cases share. */
final class Bounds {
    static final int NO_SUCH = -1, BAD_VALUE = -2, BAD_TEXT = -3, TOO_MANY = -4, NOT_POSSIBLE = -5, NONE = -6;
    static final int LEAST = Integer.MIN_VALUE, GREATEST = Integer.MAX_VALUE;

    private Bounds() {
    }

    /** In the midst of a game: both slots saved, a house frozen, a text with a fault on the pad, a full history. */
    static TwinPatience begun() {
        TwinPatience game = Games.played(12, 30);
        game.save(0);
        game.play(25);
        game.freeze(1);
        game.draw();
        game.save(1);
        game.draw();
        game.draw();
        game.draw();
        game.freeze(6);
        game.draw();
        Games.write(game, "d,f2,1");
        return game;
    }

    /** Over by its 200th draw, as Games.drawnOut() is, but by a few calls. */
    static TwinPatience drawnOut() {
        return Games.played(7, 327);
    }

    /** A call answers what is due, and neither what there is nor the pad, the history or a slot is changed by it. */
    static void unchanged(String call, Supplier<TwinPatience> from, ToIntFunction<TwinPatience> theCall, int due) {
        TwinPatience game = from.get();
        Tests.due(call, theCall.applyAsInt(game), due);
        Tests.holds("what there is after " + call, everything(game).equals(everything(from.get())));
    }

    /** All that can be known of an object, by some 430 calls, which use it up. */
    private static String everything(TwinPatience game) {
        StringBuilder all = new StringBuilder(Games.read(game));
        int states = game.count(8);
        for (int i = 0; i < states; i++) {
            all.append(" undo ").append(game.undo()).append(brief(game));
        }
        for (int slot = 0; slot <= 1; slot++) {
            all.append(" slot ").append(game.restore(slot)).append(brief(game));
        }
        return all.toString();
    }

    private static String brief(TwinPatience game) {
        StringBuilder all = new StringBuilder();
        for (int pile = 0; pile < 22; pile++) {
            all.append(' ').append(game.pile(pile, 1));
        }
        for (int what = 0; what <= 6; what++) {
            all.append(' ').append(game.count(what));
        }
        for (int what = 0; what <= 1; what++) {
            all.append(' ').append(game.side(0, what)).append(' ').append(game.side(1, what));
        }
        return all.toString();
    }

    static boolean isListed(TwinPatience game, int from, int to) {
        int found = game.count(5);
        for (int move = 0; move < found; move++) {
            if (game.ofMove(move, 0) == from && game.ofMove(move, 1) == to) {
                return true;
            }
        }
        return false;
    }
}
