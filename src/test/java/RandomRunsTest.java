import java.util.List;
import java.util.Random;

/** Long runs of calls, wrong ones among them: every answer is that of the Model. */
final class RandomRunsTest {
    private static final int CALLS = 512;
    private static final int[] STRANGE = {Integer.MIN_VALUE, -22, -6, -1, 22, 61, 104, 201, 1 << 29, Integer.MAX_VALUE};

    private final Random random;
    private final TwinPatience got = new TwinPatience();
    private final Model want = new Model();
    private int calls = 0;

    private RandomRunsTest(int seed) {
        random = new Random(seed);
    }

    static void run() {
        Tests.run("random runs against the model", () -> {
            for (int seed = 0; seed < 400; seed++) {
                new RandomRunsTest(seed).runOnce(seed);
            }
        });
        Tests.run("every reading along played games", () -> {
            for (int number = 0; number < 60; number++) {
                for (int plays = 0; plays < 8; plays++) {
                    readAll(number, plays);
                }
            }
        });
    }

    private void runOnce(int seed) {
        // A round makes one call or two.
        while (calls <= CALLS - 2) {
            // Half of the runs stay mostly within one game, so that they get far.
            int kind = random.nextInt(seed % 2 == 0 ? 100 : 60);
            if (kind < 22) {
                someMove();
            } else if (kind < 45) {
                change(kind);
            } else if (kind < 60) {
                text();
            } else {
                reading();
            }
        }
    }

    private void due(String call, int answer, int wanted) {
        calls++;
        Tests.due(call + ", as call " + calls + ",", answer, wanted);
    }

    private int number(int limit) {
        return random.nextInt(20) == 0 ? STRANGE[random.nextInt(STRANGE.length)] : random.nextInt(limit);
    }

    private void someMove() {
        List<int[]> all = want.now.allMoves();
        int from = number(22);
        int to = number(22);
        if (!all.isEmpty() && random.nextInt(5) > 0) {
            int[] move = all.get(random.nextInt(all.size()));
            from = move[0];
            to = move[1];
        }
        due("move(" + from + ", " + to + ")", got.move(from, to), want.move(from, to));
    }

    private void change(int kind) {
        int small = number(2);
        int house = number(8);
        int steps = number(random.nextBoolean() ? 4 : 61);
        switch (kind % 12) {
            case 0 -> due("play(" + steps + ")", got.play(steps), want.play(steps));
            case 1 -> due("freeze(" + house + ")", got.freeze(house), want.freeze(house));
            case 2 -> due("undo()", got.undo(), want.undo());
            case 3 -> due("save(" + small + ")", got.save(small), want.save(small));
            case 4 -> {
                if (random.nextInt(4) == 0) {
                    due("restore(" + small + ")", got.restore(small), want.restore(small));
                }
            }
            case 5 -> {
                int number = random.nextInt(10) == 0 ? random.nextInt() : random.nextInt(50);
                if (random.nextInt(6) == 0) {
                    due("deal(" + number + ")", got.deal(number), want.deal(number));
                }
            }
            default -> due("draw()", got.draw(), want.draw());
        }
    }

    private void text() {
        switch (random.nextInt(8)) {
            case 0 -> due("wipe()", got.wipe(), want.wipe());
            case 1 -> due("playAll()", got.playAll(), want.playAll());
            case 2 -> due("fault()", got.fault(), want.fault());
            default -> {
                long characters = random.nextInt(12) == 0 ? random.nextLong() >>> random.nextInt(64) : packed(someText());
                due("put(" + characters + ")", got.put(characters), want.put(characters));
                due("fault()", got.fault(), want.fault());
            }
        }
    }

    private String someText() {
        String comma = want.pad.isEmpty() ? "" : ",";
        List<int[]> all = want.now.allMoves();
        int[] move = all.isEmpty() ? new int[] {random.nextInt(24), random.nextInt(24)} : all.get(random.nextInt(all.size()));
        return switch (random.nextInt(8)) {
            case 0, 1 -> comma + "d";
            case 2 -> comma + "f" + random.nextInt(9);
            case 3 -> comma + "d,f" + random.nextInt(8) + ",d";
            case 4 -> "" + "df>,0123456789!~".charAt(random.nextInt(16));
            case 5 -> comma + random.nextInt(24) + ">" + random.nextInt(24);
            default -> comma + move[0] + ">" + move[1];
        };
    }

    static long packed(String text) {
        long characters = 0;
        for (int i = 0; i < text.length(); i++) {
            characters = characters << 8 | text.charAt(i);
        }
        return characters;
    }

    private void reading() {
        int pile = number(22);
        int card = number(104);
        int what = number(5);
        int place = number(20);
        int side = number(2);
        int steps = number(201);
        switch (random.nextInt(9)) {
            case 0 -> due("pile(" + pile + ", " + what + ")", got.pile(pile, what), want.pile(pile, what));
            case 1 -> due("card(" + pile + ", " + place + ")", got.card(pile, place), want.card(pile, place));
            case 2 -> due("where(" + card + ", " + what + ")", got.where(card, what), want.where(card, what));
            case 3 -> due("side(" + side + ", " + what + ")", got.side(side, what), want.side(side, what));
            case 4 -> due("count(" + place + ")", got.count(place), want.count(place));
            case 5 -> due("ofMove(" + place + ", " + what + ")", got.ofMove(place, what), want.ofMove(place, what));
            case 6 -> due("best()", got.best(), want.best());
            case 7 -> due("ifPlayed(" + steps + ", " + what + ")", got.ifPlayed(steps, what), want.ifPlayed(steps, what));
            default -> due("buried(" + card + ")", got.buried(card), want.buried(card));
        }
    }

    /** All that can be asked of a game after some plays by rule, with arguments just out of range. */
    private static void readAll(int number, int plays) {
        TwinPatience got = new TwinPatience();
        Model want = new Model();
        begin(got, want, number, plays);
        for (int what = -1; what <= 9; what++) {
            for (int i = -1; i <= 22; i += what <= 3 ? 1 : 23) {
                Tests.due("pile(" + i + ", " + what + ")", got.pile(i, what), want.pile(i, what));
                Tests.due("ofMove(" + i + ", " + what + ")", got.ofMove(i, what), want.ofMove(i, what));
            }
            for (int side = -1; side <= 2; side++) {
                Tests.due("side(" + side + ", " + what + ")", got.side(side, what), want.side(side, what));
            }
            Tests.due("count(" + what + ")", got.count(what), want.count(what));
            Tests.due("ifPlayed(" + 9 * plays + ", " + what + ")", got.ifPlayed(9 * plays, what), want.ifPlayed(9 * plays, what));
        }
        Tests.due("best()", got.best(), want.best());
        readCards(number, plays);
    }

    /** Another object, so that none is used for more than 512 calls. */
    private static void readCards(int number, int plays) {
        TwinPatience got = new TwinPatience();
        Model want = new Model();
        begin(got, want, number, plays);
        for (int card = -1; card <= 104; card++) {
            Tests.due("where(" + card + ", 0)", got.where(card, 0), want.where(card, 0));
            Tests.due("where(" + card + ", 1)", got.where(card, 1), want.where(card, 1));
            Tests.due("buried(" + card + ")", got.buried(card), want.buried(card));
        }
        for (int pile = -1; pile <= 22; pile++) {
            int size = Math.max(0, want.pile(pile, 0));
            for (int place = -1; place <= size; place++) {
                Tests.due("card(" + pile + ", " + place + ")", got.card(pile, place), want.card(pile, place));
            }
        }
    }

    private static void begin(TwinPatience got, Model want, int number, int plays) {
        Tests.due("deal", got.deal(number), want.deal(number));
        for (int i = 0; i < plays; i++) {
            Tests.due("play", got.play(1 + 7 * i), want.play(1 + 7 * i));
            Tests.due("freeze", got.freeze((number + 3 * i) % 8), want.freeze((number + 3 * i) % 8));
        }
    }
}
