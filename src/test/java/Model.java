import java.util.ArrayList;
import java.util.Collections;
import java.util.List;
import java.util.regex.Matcher;
import java.util.regex.Pattern;

/**
 * The document's game once more, as plainly as lists and texts allow and as slow as it likes:
 * RandomRunsTest holds TwinPatience against it. It shares no code with the class.
 */
final class Model {
    static final int NO_SUCH = -1, BAD_VALUE = -2, BAD_TEXT = -3, TOO_MANY = -4, NOT_POSSIBLE = -5, NONE = -6;
    private static final Pattern PLAY = Pattern.compile(
            "(d|f[0-7]|(1[0-9]|2[01]|[0-9])>(1[0-9]|2[01]|[0-9]))(,(d|f[0-7]|(1[0-9]|2[01]|[0-9])>(1[0-9]|2[01]|[0-9])))*");

    /** One position of a game. */
    static final class State {
        final List<List<Integer>> piles = new ArrayList<>();
        final int[] points = {0, 0};
        final int[] freezes = {2, 2};
        final int[] frozen = new int[22];
        int toPlay = 0;
        int draws = 0;
        int moves = 0;
        boolean emptied = false;

        State(long x) {
            for (int i = 0; i < 22; i++) {
                piles.add(new ArrayList<>());
            }
            for (int side = 0; side < 2; side++) {
                List<Integer> pack = new ArrayList<>();
                for (int i = 0; i < 52; i++) {
                    pack.add(52 * side + i);
                }
                for (int k = 51; k >= 1; k--) {
                    x = (x * 1103515245L + 12345L) % (1L << 31);
                    Collections.swap(pack, k, (int) ((x / 65536) % (k + 1)));
                }
                piles.get(side).addAll(pack.subList(0, 13));
                for (int i = 0; i < 4; i++) {
                    piles.get(6 + 4 * side + i).add(pack.get(13 + i));
                }
                piles.get(4 + side).addAll(pack.subList(17, 52));
            }
        }

        State(State other) {
            for (List<Integer> pile : other.piles) {
                piles.add(new ArrayList<>(pile));
            }
            System.arraycopy(other.points, 0, points, 0, 2);
            System.arraycopy(other.freezes, 0, freezes, 0, 2);
            System.arraycopy(other.frozen, 0, frozen, 0, 22);
            toPlay = other.toPlay;
            draws = other.draws;
            moves = other.moves;
            emptied = other.emptied;
        }

        boolean over() {
            return emptied || draws == 200;
        }

        int top(int pile) {
            List<Integer> cards = piles.get(pile);
            return cards.isEmpty() ? NONE : cards.get(cards.size() - 1);
        }

        private static int suit(int card) {
            return (card >= 52 ? card - 52 : card) / 13;
        }

        private static int rank(int card) {
            return (card >= 52 ? card - 52 : card) % 13;
        }

        boolean fitsSomeAcesPile(int card) {
            for (int pile = 14; pile <= 21; pile++) {
                if (fitsAcesPile(card, pile)) {
                    return true;
                }
            }
            return false;
        }

        private boolean fitsAcesPile(int card, int pile) {
            int top = top(pile);
            return top < 0 ? rank(card) == 0 : suit(top) == suit(card) && rank(top) + 1 == rank(card);
        }

        boolean isMove(int from, int to) {
            boolean source = from == toPlay || from == 2 + toPlay || from >= 6 && from <= 13 && frozen[from] == 0;
            if (over() || !source || top(from) < 0) {
                return false;
            }
            int card = top(from);
            int top = top(to);
            if (to >= 14) {
                return fitsAcesPile(card, to);
            }
            if (to >= 6) {
                boolean otherColour = top >= 0 && (suit(top) < 2) != (suit(card) < 2);
                return frozen[to] == 0 && (top < 0 || otherColour && rank(card) + 1 == rank(top));
            }
            boolean near = top >= 0 && suit(top) == suit(card) && (rank(top) + 1 == rank(card) || rank(top) - 1 == rank(card));
            return to == (toPlay == 0 ? 3 : 2) && near;
        }

        int worth(int from, int to) {
            boolean aces = to >= 14;
            if (from == toPlay) {
                return aces ? 3 : 2;
            }
            if (aces) {
                boolean otherSides = toPlay == 0 ? from >= 10 && from <= 13 : from >= 6 && from <= 9;
                return otherSides ? 2 : 1;
            }
            return to == 2 || to == 3 ? 1 : 0;
        }

        List<int[]> allMoves() {
            List<int[]> all = new ArrayList<>();
            for (int from = 0; from < 22; from++) {
                for (int to = 0; to < 22; to++) {
                    if (isMove(from, to)) {
                        all.add(new int[] {from, to, worth(from, to)});
                    }
                }
            }
            return all;
        }

        int best() {
            List<int[]> all = allMoves();
            for (int points = 3; points >= 0; points--) {
                for (int i = 0; i < all.size(); i++) {
                    if (all.get(i)[2] == points) {
                        return i;
                    }
                }
            }
            return NONE;
        }

        int left(int side) {
            return piles.get(side).size() + piles.get(2 + side).size() + piles.get(4 + side).size();
        }

        int onAces() {
            int sum = 0;
            for (List<Integer> pile : piles.subList(14, 22)) {
                sum += pile.size();
            }
            return sum;
        }

        int move(int from, int to) {
            if (!isMove(from, to)) {
                return NOT_POSSIBLE;
            }
            int gained = worth(from, to);
            List<Integer> cards = piles.get(from);
            piles.get(to).add(cards.remove(cards.size() - 1));
            moves++;
            if (left(toPlay) == 0) {
                emptied = true;
                gained += 10;
            }
            points[toPlay] += gained;
            return gained;
        }

        int draw() {
            if (over()) {
                return NOT_POSSIBLE;
            }
            List<Integer> waste = piles.get(2 + toPlay);
            List<Integer> hand = piles.get(4 + toPlay);
            if (hand.isEmpty()) {
                hand.addAll(waste);
                Collections.reverse(hand);
                waste.clear();
            }
            int card = NONE;
            if (!hand.isEmpty()) {
                card = hand.remove(hand.size() - 1);
                waste.add(card);
            }
            draws++;
            toPlay = toPlay == 0 ? 1 : 0;
            for (int i = 0; i < 22; i++) {
                frozen[i] = frozen[i] > 0 ? frozen[i] - 1 : 0;
            }
            return card;
        }

        int freeze(int house) {
            if (over() || frozen[6 + house] > 0 || freezes[toPlay] == 0) {
                return NOT_POSSIBLE;
            }
            frozen[6 + house] = 3;
            freezes[toPlay]--;
            return freezes[toPlay];
        }

        int play(int steps) {
            for (int done = 0; done < steps; done++) {
                if (over()) {
                    return done;
                }
                int best = best();
                int[] move = best == NONE ? null : allMoves().get(best);
                if (move != null && move[2] > 0) {
                    move(move[0], move[1]);
                } else {
                    draw();
                }
            }
            return steps;
        }
    }

    State now = new State(1);
    String pad = "";
    private final List<State> history = new ArrayList<>();
    private final State[] slots = new State[2];

    private void record() {
        history.add(new State(now));
        if (history.size() > 6) {
            history.remove(0);
        }
    }

    /** Keeps the state before a change, if the change answered no error. */
    private int changed(State before, int answer) {
        if (answer >= 0 || answer == NONE) {
            State after = now;
            now = before;
            record();
            now = after;
        }
        return answer;
    }

    int deal(int number) {
        if (number < 0) {
            return BAD_VALUE;
        }
        record();
        now = new State(number);
        return now.top(0);
    }

    int move(int from, int to) {
        if (from < 0 || from > 21 || to < 0 || to > 21) {
            return NO_SUCH;
        }
        return changed(new State(now), now.move(from, to));
    }

    int draw() {
        return changed(new State(now), now.draw());
    }

    int freeze(int house) {
        return house < 0 || house > 7 ? NO_SUCH : changed(new State(now), now.freeze(house));
    }

    int play(int steps) {
        return steps < 1 || steps > 60 ? BAD_VALUE : changed(new State(now), now.play(steps));
    }

    int playAll() {
        if (fault() != NONE) {
            return BAD_TEXT;
        }
        record();
        int done = 0;
        for (String step : pad.split(",")) {
            int answer;
            if (step.equals("d")) {
                answer = now.draw();
            } else if (step.startsWith("f")) {
                answer = now.freeze(Integer.parseInt(step.substring(1)));
            } else {
                String[] piles = step.split(">");
                answer = now.move(Integer.parseInt(piles[0]), Integer.parseInt(piles[1]));
            }
            if (answer < 0 && answer != NONE) {
                break;
            }
            done++;
        }
        pad = "";
        return done;
    }

    int pile(int pile, int what) {
        if (pile < 0 || pile > 21) {
            return NO_SUCH;
        }
        if (what < 0 || what > 2) {
            return BAD_VALUE;
        }
        return what == 0 ? now.piles.get(pile).size() : what == 1 ? now.top(pile) : now.frozen[pile];
    }

    int card(int pile, int place) {
        if (pile < 0 || pile > 21 || place < 0 || place >= now.piles.get(pile).size()) {
            return NO_SUCH;
        }
        return now.piles.get(pile).get(place);
    }

    int where(int card, int what) {
        if (card < 0 || card > 103) {
            return NO_SUCH;
        }
        if (what != 0 && what != 1) {
            return BAD_VALUE;
        }
        for (int pile = 0; pile < 22; pile++) {
            int place = now.piles.get(pile).indexOf(card);
            if (place >= 0) {
                return what == 0 ? pile : place;
            }
        }
        throw new IllegalStateException("card " + card + " is lost");
    }

    int side(int side, int what) {
        if (side < 0 || side > 1 || what < 0 || what > 3) {
            return BAD_VALUE;
        }
        int longest = 0;
        for (List<Integer> house : now.piles.subList(6 + 4 * side, 10 + 4 * side)) {
            longest = Math.max(longest, house.size());
        }
        return new int[] {now.points[side], now.freezes[side], now.left(side), longest}[what];
    }

    int count(int what) {
        if (what < 0 || what > 8) {
            return BAD_VALUE;
        }
        int frozen = 0;
        for (int draws : now.frozen) {
            frozen += draws > 0 ? 1 : 0;
        }
        return new int[] {now.toPlay, now.over() ? 1 : 0, now.draws, now.moves, now.onAces(),
            now.allMoves().size(), frozen, pad.length(), history.size()}[what];
    }

    int ofMove(int move, int what) {
        List<int[]> all = now.allMoves();
        if (move < 0 || move >= all.size()) {
            return NO_SUCH;
        }
        return what < 0 || what > 2 ? BAD_VALUE : all.get(move)[what];
    }

    int best() {
        return now.best();
    }

    int ifPlayed(int steps, int what) {
        if (steps < 1 || steps > 200 || what < 0 || what > 3) {
            return BAD_VALUE;
        }
        State then = new State(now);
        then.play(steps);
        return new int[] {then.points[0], then.points[1], then.onAces(), then.draws - now.draws}[what];
    }

    int buried(int card) {
        if (card < 0 || card > 103) {
            return NO_SUCH;
        }
        int above = now.piles.get(where(card, 0)).size() - 1 - where(card, 1);
        return above + (!now.over() && now.fitsSomeAcesPile(card) ? 1000 : 0);
    }

    int put(long characters) {
        StringBuilder text = new StringBuilder();
        boolean ended = false;
        for (int shift = 0; shift < 64; shift += 8) {
            int code = (int) (characters >> shift) & 255;
            if (code == 0) {
                ended = true;
            } else if (ended || code < 33 || code > 126) {
                return BAD_VALUE;
            } else {
                text.insert(0, (char) code);
            }
        }
        if (text.length() == 0) {
            return BAD_VALUE;
        }
        if (pad.length() + text.length() > 60) {
            return TOO_MANY;
        }
        pad += text;
        return pad.length();
    }

    int wipe() {
        int had = pad.length();
        pad = "";
        return had;
    }

    /** A character can stand at its place if what ends with it is the beginning of some play. */
    int fault() {
        for (int end = 1; end <= pad.length(); end++) {
            Matcher matcher = PLAY.matcher(pad.substring(0, end));
            if (!matcher.matches() && !matcher.hitEnd()) {
                return end - 1;
            }
        }
        return PLAY.matcher(pad).matches() ? NONE : pad.length();
    }

    int undo() {
        if (history.isEmpty()) {
            return NOT_POSSIBLE;
        }
        now = history.remove(history.size() - 1);
        return history.size();
    }

    int save(int slot) {
        if (slot < 0 || slot > 1) {
            return BAD_VALUE;
        }
        slots[slot] = new State(now);
        return now.draws;
    }

    int restore(int slot) {
        if (slot < 0 || slot > 1) {
            return BAD_VALUE;
        }
        if (slots[slot] == null) {
            return NOT_POSSIBLE;
        }
        record();
        now = new State(slots[slot]);
        return now.draws;
    }
}
