/** A patience at two tables; ../shared/DOC.md says what each call promises. */
public final class TwinPatience {
    public static final int NO_SUCH = -1, BAD_VALUE = -2, BAD_TEXT = -3, TOO_MANY = -4, NOT_POSSIBLE = -5, NONE = -6;

    private static final int SIDES = 2;
    private static final int RANKS = 13;
    private static final int PACK = 52;
    private static final int CARDS = 104;
    private static final int FIRST_RED_CARD = 26;

    // The first pile of each kind; the piles of the two sides follow each other.
    private static final int STOCKS = 0;
    private static final int WASTES = 2;
    private static final int HANDS = 4;
    private static final int HOUSES = 6;
    private static final int ACES = 14;
    private static final int PILES = 22;

    // Where the cards of each pile begin in the row of all cards: a waste or a hand may come
    // to hold every card, the others never hold more than 13.
    private static final int[] FIRST_PLACES = {
        0, 13, 26, 130, 234, 338,
        442, 455, 468, 481, 494, 507, 520, 533,
        546, 559, 572, 585, 598, 611, 624, 637
    };
    private static final int ALL_PLACES = 650;

    private static final int SIDE_HOUSES = 4;
    private static final int ALL_HOUSES = 8;
    private static final int STOCK_CARDS = 13;
    private static final int FIRST_HAND_CARD = 17;

    private static final int FREEZES = 2;
    private static final int FROZEN_DRAWS = 3;
    private static final int LAST_DRAW = 200;
    private static final int POINTS_FOR_EMPTY = 10;

    // Ten piles may give a card, and seventeen may take one.
    private static final int MOST_MOVES = 170;
    private static final int MOST_PLAYED = 60;
    private static final int MOST_TRIED = 200;
    private static final int MOST_SIGNS = 60;
    private static final int SIGNS_IN_LONG = 8;
    private static final int HISTORY = 6;
    private static final int SLOTS = 2;
    private static final int MORE_IF_IT_FITS = 1000;

    private final Table now = new Table();
    private final Table trial = new Table();
    private final Table[] past = new Table[HISTORY];
    private final Table[] slots = new Table[SLOTS];
    private final boolean[] saved = new boolean[SLOTS];
    private final Pad pad = new Pad();
    private final int[] moves = new int[MOST_MOVES];
    private int nextPast = 0;
    private int undoable = 0;

    public TwinPatience() {
        for (int i = 0; i < past.length; i++) {
            past[i] = new Table();
        }
        for (int i = 0; i < slots.length; i++) {
            slots[i] = new Table();
        }
        now.dealBy(1);
    }

    // ---- changes

    public int deal(int number) {
        if (number < 0) {
            return BAD_VALUE;
        }
        remember();
        now.dealBy(number);
        return now.topOf(STOCKS);
    }

    public int move(int from, int to) {
        if (!isPile(from) || !isPile(to)) {
            return NO_SUCH;
        }
        if (!now.allowsMove(from, to)) {
            return NOT_POSSIBLE;
        }
        remember();
        return now.moveCard(from, to);
    }

    public int draw() {
        if (now.over) {
            return NOT_POSSIBLE;
        }
        remember();
        return now.drawCard();
    }

    public int freeze(int house) {
        if (!isBelow(house, ALL_HOUSES)) {
            return NO_SUCH;
        }
        if (!now.allowsFreeze(house)) {
            return NOT_POSSIBLE;
        }
        remember();
        return now.freezeHouse(house);
    }

    public int play(int steps) {
        if (steps < 1 || steps > MOST_PLAYED) {
            return BAD_VALUE;
        }
        remember();
        return playByRule(now, steps);
    }

    public int playAll() {
        if (pad.firstFault() != NONE) {
            return BAD_TEXT;
        }
        remember();
        int done = 0;
        int start = 0;
        while (done < MOST_SIGNS && start < pad.length && playStep(start) != NOT_POSSIBLE) {
            done++;
            start = pad.nextStep(start);
        }
        pad.clear();
        return done;
    }

    // ---- what there is; nothing changes

    public int pile(int pile, int what) {
        if (!isPile(pile)) {
            return NO_SUCH;
        }
        switch (what) {
            case 0: return now.sizeOf(pile);
            case 1: return now.topOf(pile);
            case 2: return now.frozenFor(pile);
            default: return BAD_VALUE;
        }
    }

    public int card(int pile, int place) {
        if (!isPile(pile) || !isBelow(place, now.sizeOf(pile))) {
            return NO_SUCH;
        }
        return now.cardIn(pile, place);
    }

    public int where(int card, int what) {
        if (!isBelow(card, CARDS)) {
            return NO_SUCH;
        }
        switch (what) {
            case 0: return now.pileWith(card);
            case 1: return now.placeIn(now.pileWith(card), card);
            default: return BAD_VALUE;
        }
    }

    public int side(int side, int what) {
        if (!isBelow(side, SIDES)) {
            return BAD_VALUE;
        }
        switch (what) {
            case 0: return at(now.points, side);
            case 1: return at(now.freezes, side);
            case 2: return now.leftOf(side);
            case 3: return now.longestHouse(side);
            default: return BAD_VALUE;
        }
    }

    public int count(int what) {
        switch (what) {
            case 0: return now.toPlay;
            case 1: return now.over ? 1 : 0;
            case 2: return now.draws;
            case 3: return now.moved;
            case 4: return now.onAces();
            case 5: return now.listMoves(moves);
            case 6: return now.frozenHouses();
            case 7: return pad.length;
            case 8: return undoable;
            default: return BAD_VALUE;
        }
    }

    public int ofMove(int move, int what) {
        if (!isBelow(move, now.listMoves(moves))) {
            return NO_SUCH;
        }
        int from = fromOf(at(moves, move));
        int to = toOf(at(moves, move));
        switch (what) {
            case 0: return from;
            case 1: return to;
            case 2: return now.pointsFor(from, to);
            default: return BAD_VALUE;
        }
    }

    // ---- what if; nothing changes

    public int best() {
        return indexOfBest(now);
    }

    public int ifPlayed(int steps, int what) {
        if (steps < 1 || steps > MOST_TRIED || what < 0 || what > 3) {
            return BAD_VALUE;
        }
        copyTable(now, trial);
        playByRule(trial, steps);
        switch (what) {
            case 0: return at(trial.points, 0);
            case 1: return at(trial.points, 1);
            case 2: return trial.onAces();
            default: return trial.draws - now.draws;
        }
    }

    public int buried(int card) {
        if (!isBelow(card, CARDS)) {
            return NO_SUCH;
        }
        int pile = now.pileWith(card);
        int above = now.sizeOf(pile) - 1 - now.placeIn(pile, card);
        return now.fitsAnAcesPile(card) ? MORE_IF_IT_FITS + above : above;
    }

    // ---- texts

    public int put(long characters) {
        int signs = Pad.signsIn(characters);
        if (signs < 1) {
            return BAD_VALUE;
        }
        if (pad.length + signs > MOST_SIGNS) {
            return TOO_MANY;
        }
        pad.append(characters, signs);
        return pad.length;
    }

    public int wipe() {
        int had = pad.length;
        pad.clear();
        return had;
    }

    public int fault() {
        return pad.firstFault();
    }

    // ---- undo, saving

    public int undo() {
        if (undoable < 1) {
            return NOT_POSSIBLE;
        }
        nextPast = Math.floorMod(nextPast - 1, HISTORY);
        undoable--;
        copyTable(tableAt(past, nextPast), now);
        return undoable;
    }

    public int save(int slot) {
        if (!isBelow(slot, saved.length)) {
            return BAD_VALUE;
        }
        copyTable(now, tableAt(slots, slot));
        saved[slot] = true;
        return now.draws;
    }

    public int restore(int slot) {
        if (!isBelow(slot, saved.length)) {
            return BAD_VALUE;
        }
        if (!saved[slot]) {
            return NOT_POSSIBLE;
        }
        remember();
        copyTable(tableAt(slots, slot), now);
        return now.draws;
    }

    // ---- history

    private void remember() {
        copyTable(now, tableAt(past, nextPast));
        nextPast = Math.floorMod(nextPast + 1, HISTORY);
        undoable = Math.min(undoable + 1, HISTORY);
    }

    private static void copyTable(Table from, Table to) {
        if (from == null || to == null) {
            return;
        }
        copyRow(from.cards, to.cards);
        copyRow(from.sizes, to.sizes);
        copyRow(from.points, to.points);
        copyRow(from.freezes, to.freezes);
        copyRow(from.thaws, to.thaws);
        to.toPlay = from.toPlay;
        to.draws = from.draws;
        to.moved = from.moved;
        to.over = from.over;
    }

    private static void copyRow(int[] from, int[] to) {
        System.arraycopy(from, 0, to, 0, Math.min(from.length, to.length));
    }

    private static Table tableAt(Table[] tables, int place) {
        return place >= 0 && place < tables.length ? tables[place] : null;
    }

    // ---- playing by rule and by the pad

    private int playByRule(Table table, int steps) {
        int done = 0;
        while (done < steps && !table.over) {
            int move = at(moves, indexOfBest(table));
            if (move != NONE && table.pointsFor(fromOf(move), toOf(move)) >= 1) {
                table.moveCard(fromOf(move), toOf(move));
            } else {
                table.drawCard();
            }
            done++;
        }
        return done;
    }

    private int indexOfBest(Table table) {
        int found = table.listMoves(moves);
        int best = NONE;
        int most = -1;
        for (int i = 0; i < found; i++) {
            int points = table.pointsFor(fromOf(at(moves, i)), toOf(at(moves, i)));
            if (points > most) {
                best = i;
                most = points;
            }
        }
        return best;
    }

    private int playStep(int start) {
        int sign = pad.signAt(start);
        if (sign == 'd') {
            return now.over ? NOT_POSSIBLE : now.drawCard();
        }
        if (sign == 'f') {
            int house = pad.signAt(start + 1) - '0';
            return now.allowsFreeze(house) ? now.freezeHouse(house) : NOT_POSSIBLE;
        }
        int from = pad.pileAt(start);
        int to = pad.pileAt(pad.pileEnd(start) + 1);
        return now.allowsMove(from, to) ? now.moveCard(from, to) : NOT_POSSIBLE;
    }

    // ---- numbers and rows

    private static boolean isBelow(int number, int limit) {
        return number >= 0 && number < limit;
    }

    private static boolean isPile(int pile) {
        return isBelow(pile, PILES);
    }

    private static int at(int[] row, int place) {
        return place >= 0 && place < row.length ? row[place] : NONE;
    }

    private static void setAt(int[] row, int place, int value) {
        if (place >= 0 && place < row.length) {
            row[place] = value;
        }
    }

    private static void addAt(int[] row, int place, int more) {
        setAt(row, place, at(row, place) + more);
    }

    // A move is kept as one number, so that a list of moves is a plain row.
    private static int moveOf(int from, int to) {
        return from * PILES + to;
    }

    private static int fromOf(int move) {
        return move / PILES;
    }

    private static int toOf(int move) {
        return move % PILES;
    }

    // ---- cards

    private static int suitOf(int card) {
        return card % PACK / RANKS;
    }

    private static int rankOf(int card) {
        return card % RANKS;
    }

    private static boolean isRed(int card) {
        return card % PACK >= FIRST_RED_CARD;
    }

    private static boolean fitsAces(int card, int top) {
        if (top == NONE) {
            return rankOf(card) == 0;
        }
        return suitOf(card) == suitOf(top) && rankOf(card) == rankOf(top) + 1;
    }

    private static boolean fitsHouse(int card, int top) {
        return top == NONE || isRed(card) != isRed(top) && rankOf(card) == rankOf(top) - 1;
    }

    private static boolean fitsWaste(int card, int top) {
        return top != NONE && suitOf(card) == suitOf(top) && Math.abs(rankOf(card) - rankOf(top)) == 1;
    }

    /** The piles of a game and its numbers: all that a change may change, but for the pad. */
    private static final class Table {
        final int[] cards = new int[ALL_PLACES];
        final int[] sizes = new int[PILES];
        final int[] points = new int[SIDES];
        final int[] freezes = new int[SIDES];
        // For each house, how many draws there are when it is free again.
        final int[] thaws = new int[ALL_HOUSES];
        int toPlay;
        int draws;
        int moved;
        boolean over;

        void dealBy(int number) {
            clear();
            long x = number;
            for (int side = 0; side < SIDES; side++) {
                int hand = HANDS + side;
                for (int i = 0; i < PACK; i++) {
                    layOn(hand, side * PACK + i);
                }
                x = shuffle(hand, x);
                dealOut(side, hand);
            }
        }

        private void clear() {
            for (int pile = 0; pile < PILES; pile++) {
                setAt(sizes, pile, 0);
            }
            for (int side = 0; side < SIDES; side++) {
                setAt(points, side, 0);
                setAt(freezes, side, FREEZES);
            }
            for (int house = 0; house < ALL_HOUSES; house++) {
                setAt(thaws, house, 0);
            }
            toPlay = 0;
            draws = 0;
            moved = 0;
            over = false;
        }

        private long shuffle(int pile, long x) {
            for (int k = PACK - 1; k >= 1; k--) {
                x = (x * 1103515245L + 12345L) % 2147483648L;
                int other = (int) (x / 65536L % (k + 1));
                int card = cardIn(pile, k);
                setCard(pile, k, cardIn(pile, other));
                setCard(pile, other, card);
            }
            return x;
        }

        // The pack lies shuffled in the hand: its lowest cards go, the others sink to the bottom.
        private void dealOut(int side, int hand) {
            setAt(sizes, hand, 0);
            for (int k = 0; k < PACK; k++) {
                int card = cardIn(hand, k);
                if (k < STOCK_CARDS) {
                    layOn(STOCKS + side, card);
                } else if (k < FIRST_HAND_CARD) {
                    layOn(HOUSES + side * SIDE_HOUSES + k - STOCK_CARDS, card);
                } else {
                    layOn(hand, card);
                }
            }
        }

        int sizeOf(int pile) {
            return at(sizes, pile);
        }

        int cardIn(int pile, int place) {
            return at(cards, at(FIRST_PLACES, pile) + place);
        }

        private void setCard(int pile, int place, int card) {
            setAt(cards, at(FIRST_PLACES, pile) + place, card);
        }

        int topOf(int pile) {
            int size = at(sizes, pile);
            return size > 0 ? at(cards, at(FIRST_PLACES, pile) + size - 1) : NONE;
        }

        private void layOn(int pile, int card) {
            setCard(pile, at(sizes, pile), card);
            addAt(sizes, pile, 1);
        }

        private int takeFrom(int pile) {
            int card = topOf(pile);
            if (card != NONE) {
                addAt(sizes, pile, -1);
            }
            return card;
        }

        int placeIn(int pile, int card) {
            int size = sizeOf(pile);
            for (int place = 0; place < size; place++) {
                if (cardIn(pile, place) == card) {
                    return place;
                }
            }
            return NONE;
        }

        int pileWith(int card) {
            for (int pile = 0; pile < PILES; pile++) {
                if (placeIn(pile, card) != NONE) {
                    return pile;
                }
            }
            return NONE;
        }

        int leftOf(int side) {
            return sizeOf(STOCKS + side) + sizeOf(WASTES + side) + sizeOf(HANDS + side);
        }

        int longestHouse(int side) {
            int longest = 0;
            for (int i = 0; i < SIDE_HOUSES; i++) {
                longest = Math.max(longest, sizeOf(HOUSES + side * SIDE_HOUSES + i));
            }
            return longest;
        }

        int onAces() {
            int sum = 0;
            for (int pile = ACES; pile < PILES; pile++) {
                sum += sizeOf(pile);
            }
            return sum;
        }

        int frozenFor(int pile) {
            return isHouse(pile) ? Math.max(0, at(thaws, pile - HOUSES) - draws) : 0;
        }

        int frozenHouses() {
            int sum = 0;
            for (int pile = HOUSES; pile < ACES; pile++) {
                if (frozenFor(pile) > 0) {
                    sum++;
                }
            }
            return sum;
        }

        private static boolean isHouse(int pile) {
            return pile >= HOUSES && pile < ACES;
        }

        private boolean isOwnHouse(int pile) {
            return isHouse(pile) && (pile - HOUSES) / SIDE_HOUSES == toPlay;
        }

        private int otherWaste() {
            return WASTES + 1 - toPlay;
        }

        // ---- moves

        private boolean mayGive(int from) {
            if (over || sizeOf(from) < 1) {
                return false;
            }
            return from == STOCKS + toPlay || from == WASTES + toPlay || isHouse(from) && frozenFor(from) == 0;
        }

        private boolean mayTake(int to, int card) {
            if (isHouse(to)) {
                return frozenFor(to) == 0 && fitsHouse(card, topOf(to));
            }
            if (to >= ACES) {
                return fitsAces(card, topOf(to));
            }
            return to == otherWaste() && fitsWaste(card, topOf(to));
        }

        boolean allowsMove(int from, int to) {
            return isPile(from) && isPile(to) && mayGive(from) && mayTake(to, topOf(from));
        }

        int listMoves(int[] list) {
            int found = 0;
            for (int from = 0; from < ACES; from++) {
                if (!mayGive(from)) {
                    continue;
                }
                int card = topOf(from);
                for (int to = WASTES; to < PILES; to++) {
                    if (mayTake(to, card)) {
                        setAt(list, found, moveOf(from, to));
                        found++;
                    }
                }
            }
            return found;
        }

        int pointsFor(int from, int to) {
            boolean fromStock = from == STOCKS + toPlay;
            if (to >= ACES) {
                if (fromStock) {
                    return 3;
                }
                return isHouse(from) && !isOwnHouse(from) ? 2 : 1;
            }
            if (fromStock) {
                return 2;
            }
            return to == otherWaste() ? 1 : 0;
        }

        int moveCard(int from, int to) {
            int gained = pointsFor(from, to);
            layOn(to, takeFrom(from));
            moved++;
            if (leftOf(toPlay) == 0) {
                over = true;
                gained += POINTS_FOR_EMPTY;
            }
            addAt(points, toPlay, gained);
            return gained;
        }

        boolean fitsAnAcesPile(int card) {
            for (int pile = ACES; pile < PILES && !over; pile++) {
                if (fitsAces(card, topOf(pile))) {
                    return true;
                }
            }
            return false;
        }

        // ---- draws and freezes

        int drawCard() {
            int hand = HANDS + toPlay;
            int waste = WASTES + toPlay;
            if (sizeOf(hand) == 0) {
                turnOver(waste, hand);
            }
            int card = takeFrom(hand);
            if (card != NONE) {
                layOn(waste, card);
            }
            draws++;
            over = draws >= LAST_DRAW;
            toPlay = 1 - toPlay;
            return card;
        }

        private void turnOver(int waste, int hand) {
            int size = sizeOf(waste);
            for (int i = 0; i < size; i++) {
                layOn(hand, takeFrom(waste));
            }
        }

        boolean allowsFreeze(int house) {
            return !over && frozenFor(HOUSES + house) == 0 && at(freezes, toPlay) > 0;
        }

        int freezeHouse(int house) {
            setAt(thaws, house, draws + FROZEN_DRAWS);
            addAt(freezes, toPlay, -1);
            return at(freezes, toPlay);
        }
    }

    /** The pad: a text that is read as a play. */
    private static final class Pad {
        final int[] signs = new int[MOST_SIGNS];
        int length = 0;

        static int signsIn(long characters) {
            long rest = characters;
            int found = 0;
            while (found < SIGNS_IN_LONG && (rest & 255L) != 0) {
                long sign = rest & 255L;
                if (sign < 33 || sign > 126) {
                    return BAD_VALUE;
                }
                found++;
                rest = rest >>> 8;
            }
            return rest == 0 ? found : BAD_VALUE;
        }

        void append(long characters, int found) {
            for (int i = found - 1; i >= 0; i--) {
                setAt(signs, length, (int) (characters >>> 8 * i & 255L));
                length++;
            }
        }

        void clear() {
            length = 0;
        }

        // Behind the end there is 0, a sign that can stand nowhere: a text that ends
        // too early has its fault there, at its length.
        int signAt(int place) {
            return place < length ? at(signs, place) : 0;
        }

        int firstFault() {
            int start = 0;
            for (int steps = 0; steps <= length; steps++) {
                int stop = readStep(start);
                if (stop < 0) {
                    return -1 - stop;
                }
                if (stop == length) {
                    return NONE;
                }
                if (signAt(stop) != ',') {
                    return stop;
                }
                start = stop + 1;
            }
            return length;
        }

        // Where the step ends, or, if it has a fault at a place p, -1 - p.
        private int readStep(int start) {
            int sign = signAt(start);
            if (sign == 'd') {
                return start + 1;
            }
            if (sign == 'f') {
                return signAt(start + 1) >= '0' && signAt(start + 1) <= '7' ? start + 2 : -2 - start;
            }
            int arrow = pileEnd(start);
            if (arrow == start || signAt(arrow) != '>') {
                return -1 - arrow;
            }
            int stop = pileEnd(arrow + 1);
            return stop == arrow + 1 ? -1 - stop : stop;
        }

        // A second digit belongs to the pile only if the pile then is 10 to 21.
        int pileEnd(int start) {
            if (!isDigit(start)) {
                return start;
            }
            boolean second = isDigit(start + 1) && twoDigits(start) >= 10 && isPile(twoDigits(start));
            return second ? start + 2 : start + 1;
        }

        int pileAt(int start) {
            return pileEnd(start) == start + 2 ? twoDigits(start) : signAt(start) - '0';
        }

        private int twoDigits(int start) {
            return 10 * (signAt(start) - '0') + signAt(start + 1) - '0';
        }

        private boolean isDigit(int place) {
            return signAt(place) >= '0' && signAt(place) <= '9';
        }

        int nextStep(int start) {
            int comma = start;
            while (comma < length && signAt(comma) != ',') {
                comma++;
            }
            return comma + 1;
        }
    }
}
