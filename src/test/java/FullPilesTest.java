import java.util.List;

/** Piles of thirteen cards, the most that a house and an aces' pile can have: every card lies where the model has it. */
final class FullPilesTest {
    /** For the houses 6 to 13, a deal in which build() fills it. */
    private static final int[] HOUSE_DEALS = {2016, 880, 2115, 2115, 2022, 2313, 2313, 2411};
    /** Deals that fill the aces' piles 14, 15, 16, 19 and 21; 15, 16 and 18; 14, 15 and 17; 14 and 20, by rule. */
    private static final int[] ACES_DEALS = {163, 2, 19, 23};
    private static final int MOST_STEPS = 100;

    private FullPilesTest() {
    }

    static void run() {
        for (int i = 0; i < HOUSE_DEALS.length; i++) {
            int house = 6 + i;
            int deal = HOUSE_DEALS[i];
            Tests.run("9, 10: the house " + house + " with thirteen cards", () -> fullHouse(house, deal));
        }
        Tests.run("9, 10: each aces' pile with thirteen cards", FullPilesTest::fullAcesPiles);
    }

    private static void fullHouse(int house, int deal) {
        TwinPatience got = new TwinPatience();
        Model want = new Model();
        Tests.due("deal(" + deal + ")", got.deal(deal), want.deal(deal));
        for (int step = 0; step < MOST_STEPS && want.pile(house, 0) < 13; step++) {
            build(got, want, house);
        }
        Tests.due("pile(" + house + ", 0)", got.pile(house, 0), 13);
        Tests.holds("the pile behind it has cards", want.pile(house + 1, 0) > 0);
        sameCards(got, want);
    }

    /** One step: builds on the house, begins it with a king, empties it to begin it so, or draws. */
    private static void build(TwinPatience got, Model want, int house) {
        int lowest = want.card(house, 0);
        int[] best = null;
        for (int[] move : want.now.allMoves()) {
            int card = want.pile(move[0], 1);
            boolean builds = move[1] == house && (lowest < 0 ? isKing(card) : isKing(lowest));
            boolean empties = move[0] == house && !isKing(lowest);
            if (builds && (best == null || best[1] != house) || empties && best == null) {
                best = move;
            }
        }
        if (best == null) {
            Tests.due("draw()", got.draw(), want.draw());
        } else {
            Tests.due("move(" + best[0] + ", " + best[1] + ")", got.move(best[0], best[1]), want.move(best[0], best[1]));
        }
    }

    private static boolean isKing(int card) {
        return card % 13 == 12;
    }

    private static void fullAcesPiles() {
        boolean[] filled = new boolean[22];
        for (int deal : ACES_DEALS) {
            TwinPatience got = new TwinPatience();
            Model want = new Model();
            Tests.due("deal(" + deal + ")", got.deal(deal), want.deal(deal));
            for (int i = 0; i < 7; i++) {
                Tests.due("play(60)", got.play(60), want.play(60));
            }
            for (int pile = 14; pile <= 21; pile++) {
                filled[pile] |= got.pile(pile, 0) == 13 && (pile == 21 || got.pile(pile + 1, 0) > 0);
            }
            sameCards(got, want);
        }
        for (int pile = 14; pile <= 21; pile++) {
            Tests.holds("the pile " + pile + " is filled, the one behind it has cards", filled[pile]);
        }
    }

    private static void sameCards(TwinPatience got, Model want) {
        for (int card = 0; card < 104; card++) {
            Tests.due("where(" + card + ", 0)", got.where(card, 0), want.where(card, 0));
            Tests.due("where(" + card + ", 1)", got.where(card, 1), want.where(card, 1));
        }
        for (int pile = 0; pile < 22; pile++) {
            List<Integer> cards = want.now.piles.get(pile);
            for (int place = 0; place < cards.size(); place++) {
                Tests.due("card(" + pile + ", " + place + ")", got.card(pile, place), cards.get(place));
            }
        }
    }
}
