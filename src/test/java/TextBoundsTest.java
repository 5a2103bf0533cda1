/** The promises 17 to 19, a boundary case a test. */
final class TextBoundsTest {
    private TextBoundsTest() {
    }

    static void run() {
        runPut();
        runWipe();
        runFault();
    }

    private static void runPut() {
        Tests.run("17: one character, the least", TextBoundsTest::putOne);
        Tests.run("17: eight characters, the most", TextBoundsTest::putEight);
        Tests.run("17: no character is refused", () -> putRefused(0));
        Tests.run("17: the code 33 is the least", TextBoundsTest::putLeastCode);
        Tests.run("17: the code 126 is the greatest", TextBoundsTest::putGreatestCode);
        Tests.run("17: the code 32 is refused at every place", () -> putRefusedAtEveryPlace(32));
        Tests.run("17: the code 127 is refused at every place", () -> putRefusedAtEveryPlace(127));
        Tests.run("17: the codes 1, 128 and 255 are refused at every place", TextBoundsTest::putFarCodes);
        Tests.run("17: what is above 8 bits that are 0 has to be 0", TextBoundsTest::putAboveZero);
        Tests.run("17: the lowest 8 bits are not 0, if there is a character", TextBoundsTest::putLowestZero);
        Tests.run("17: the smallest and the largest number are refused", () -> putRefused(Long.MIN_VALUE, Long.MAX_VALUE, -1L));
        Tests.run("17: the pad is filled to 60 characters", TextBoundsTest::putSixty);
        Tests.run("17: a 61st character is refused", TextBoundsTest::putSixtyOne);
        Tests.run("17: eight characters are refused where seven have room", TextBoundsTest::putEightOfSeven);
        Tests.run("17: a wrong character goes before too many", TextBoundsTest::putWrongBeforeTooMany);
        Tests.run("17: a refused text leaves the pad as it was", TextBoundsTest::putRefusedLeavesThePad);
        Tests.run("17: the pad has room again after a wipe and a play", TextBoundsTest::putAfterFull);
        Tests.run("17: it is possible after the end", TextBoundsTest::putAfterTheEnd);
    }

    private static void runWipe() {
        Tests.run("18: an empty pad", TextBoundsTest::wipeEmpty);
        Tests.run("18: a full pad", TextBoundsTest::wipeFull);
        Tests.run("18: nothing else changes", TextBoundsTest::wipeNothingElse);
    }

    private static void runFault() {
        Tests.run("19: an empty pad has its fault at 0", () -> faults("", 0));
        Tests.run("19: each house from 0 to 7", TextBoundsTest::faultHouses);
        Tests.run("19: no house 8 or 9", () -> faults("f8", 1, "f9", 1, "d,f8", 3, "f7,f8", 4));
        Tests.run("19: a house is a digit", () -> faults("f/", 1, "f:", 1, "fd", 1, "f,", 1, "f>", 1, "ff", 1));
        Tests.run("19: a house is one digit", () -> faults("f00", 2, "f12", 2, "f77", 2, "f7>1", 2));
        Tests.run("19: each pile from 0 to 21", TextBoundsTest::faultPiles);
        Tests.run("19: no pile 22 and more", TextBoundsTest::faultPilesAbove);
        Tests.run("19: no leading zeros", () -> faults("00>1", 1, "01>1", 1, "021>1", 1, "1>00", 3, "1>01", 3, "d,1>0,09>1", 7));
        Tests.run("19: no third digit", () -> faults("100>1", 2, "111>1", 2, "210>1", 2, "1>100", 4, "1>210", 4));
        Tests.run("19: a pile is made of digits", () -> faults("/>1", 0, ":>1", 0, "1>/", 2, "1>:", 2, "1/>1", 1, "1:>1", 1));
        Tests.run("19: a move without its first pile", () -> faults(">1", 0, "d,>1", 2));
        Tests.run("19: a move without its arrow", () -> faults("1,2", 1, "12d", 2, "1", 1, "12", 2, "1-2", 1, "1<2", 1));
        Tests.run("19: a move without its second pile", () -> faults("1>", 2, "1>,d", 2, "1>d", 2, "21>", 3, "1>>2", 2));
        Tests.run("19: a move ends with its second pile", () -> faults("1>2>3", 3, "1>2d", 3, "1>2f1", 3, "1>21>1", 4));
        Tests.run("19: a draw ends with its letter", () -> faults("dd", 1, "d1", 1, "df1", 1, "d>1", 1));
        Tests.run("19: a step is missing at the beginning", () -> faults(",", 0, ",d", 0));
        Tests.run("19: a step is missing between two commas", () -> faults("d,,d", 2, "f1,,d", 3, "1>2,,d", 4));
        Tests.run("19: a step is missing at the end", () -> faults("d,", 2, "f1,", 3, "1>2,", 4, "1>21,", 5));
        Tests.run("19: a freeze without its house", () -> faults("f", 1, "d,f", 3, "f,d", 1));
        Tests.run("19: no other character", () -> faults("x", 0, "D", 0, "F1", 0, "d;d", 1, "d,~", 2, "!", 0, "d.", 1, "e", 0, "c", 0));
        Tests.run("19: the first of several faults", () -> faults("dxx", 1, "f9,f9", 1, "99>99", 1, "d,x,x", 2));
        Tests.run("19: a full pad without a fault", TextBoundsTest::faultFullWithout);
        Tests.run("19: a full pad with its fault at the last character", TextBoundsTest::faultFullLast);
        Tests.run("19: a full pad that ends too early", TextBoundsTest::faultFullEnds);
        Tests.run("19: characters of an earlier text do not count", TextBoundsTest::faultAfterWipe);
        Tests.run("19: a step that is not possible is no fault", TextBoundsTest::faultNotPossible);
        Tests.run("19: nothing changes", TextBoundsTest::faultChangesNothing);
    }

    private static long packed(String text) {
        return RandomRunsTest.packed(text);
    }

    // ---- 17

    private static void putOne() {
        TwinPatience game = new TwinPatience();
        Tests.due("put", game.put('d'), 1);
        Tests.due("fault()", game.fault(), Bounds.NONE);
        Tests.due("playAll()", game.playAll(), 1);
    }

    private static void putEight() {
        TwinPatience game = new TwinPatience();
        Tests.due("put", game.put(packed("f0,10>12")), 8);
        Tests.due("fault()", game.fault(), Bounds.NONE);
        Tests.due("playAll()", game.playAll(), 2);
        Tests.due("the first characters", game.pile(6, 2), 3);
        Tests.due("the last characters", game.pile(12, 0), 2);
        Tests.due("eight of the greatest code", game.put(0x7E7E7E7E7E7E7E7EL), 8);
        Tests.due("eight of the least code", game.put(0x2121212121212121L), 16);
    }

    private static void putRefused(long... all) {
        for (long characters : all) {
            Bounds.unchanged("put(" + characters + ")", Bounds::begun, game -> game.put(characters), Bounds.BAD_VALUE);
        }
    }

    private static void putLeastCode() {
        for (int place = 0; place < 8; place++) {
            Tests.due("33 as character " + place, new TwinPatience().put(with(33, place)), 8);
        }
        Tests.due("put(33)", new TwinPatience().put(33), 1);
    }

    private static void putGreatestCode() {
        for (int place = 0; place < 8; place++) {
            Tests.due("126 as character " + place, new TwinPatience().put(with(126, place)), 8);
        }
        Tests.due("put(126)", new TwinPatience().put(126), 1);
    }

    /** Eight characters, that at a place (0 for the last one) of a code. */
    private static long with(long code, int place) {
        return 0x6464646464646464L & ~(255L << 8 * place) | code << 8 * place;
    }

    private static void putRefusedAtEveryPlace(long code) {
        for (int place = 0; place < 8; place++) {
            TwinPatience game = new TwinPatience();
            Tests.due(code + " as character " + place + " of eight", game.put(with(code, place)), Bounds.BAD_VALUE);
            Tests.due("alone at " + place, game.put(code << 8 * place), Bounds.BAD_VALUE);
            long first = with(code, place) & (-1L >>> 56 - 8 * place);
            Tests.due("as the first of " + (place + 1), game.put(first), Bounds.BAD_VALUE);
            Tests.due("count(7)", game.count(7), 0);
        }
    }

    private static void putFarCodes() {
        putRefusedAtEveryPlace(1);
        putRefusedAtEveryPlace(128);
        putRefusedAtEveryPlace(255);
    }

    private static void putAboveZero() {
        for (int place = 1; place < 7; place++) {
            for (int bit = 8 * place + 8; bit < 64; bit++) {
                TwinPatience game = new TwinPatience();
                long below = 0x6464646464646464L & (1L << 8 * place) - 1;
                Tests.due("characters below " + place, game.put(below), place);
                Tests.due("and a bit " + bit, game.put(below | 1L << bit), Bounds.BAD_VALUE);
                Tests.due("count(7)", game.count(7), place);
            }
        }
        putRefused(0x6400646464646464L, 0x6464646464640064L);
    }

    private static void putLowestZero() {
        putRefused('d' << 8, 0x6464646464646400L, 1L << 8, 1L << 63);
    }

    private static TwinPatience with(int characters) {
        TwinPatience game = new TwinPatience();
        Games.write(game, "d,".repeat(30).substring(0, characters));
        Tests.due("count(7)", game.count(7), characters);
        return game;
    }

    private static void putSixty() {
        for (int more = 1; more <= 8; more++) {
            TwinPatience game = with(60 - more);
            Tests.due(more + " more", game.put(with('f', 0) & (-1L >>> 64 - 8 * more)), 60);
            Tests.due("count(7)", game.count(7), 60);
        }
    }

    private static void putSixtyOne() {
        for (int more = 1; more <= 8; more++) {
            int before = 61 - more;
            long characters = with('f', 0) & (-1L >>> 64 - 8 * more);
            Tests.due(more + " more", with(before).put(characters), Bounds.TOO_MANY);
            Bounds.unchanged(more + " more", () -> with(before), game -> game.put(characters), Bounds.TOO_MANY);
        }
    }

    private static void putEightOfSeven() {
        TwinPatience game = with(53);
        Tests.due("eight", game.put(packed(",d,d,d,d")), Bounds.TOO_MANY);
        Tests.due("count(7)", game.count(7), 53);
        Tests.due("seven", game.put(packed(",d,d,f0")), 60);
        Tests.due("fault()", game.fault(), Bounds.NONE);
    }

    private static void putWrongBeforeTooMany() {
        TwinPatience game = with(60);
        for (long characters : new long[] {0, 32, 127, 'd' << 8, with(32, 7), 1L << 63}) {
            Tests.due("put(" + characters + ")", game.put(characters), Bounds.BAD_VALUE);
        }
        Tests.due("put('d')", game.put('d'), Bounds.TOO_MANY);
    }

    private static void putRefusedLeavesThePad() {
        TwinPatience game = with(57);
        game.put(packed("xxxx"));
        game.put(with(32, 0));
        game.put(with(32, 7));
        game.put('d' << 16 | 'd');
        Tests.due("count(7)", game.count(7), 57);
        Tests.due("fault()", game.fault(), Bounds.NONE);
        Tests.due("put", game.put(packed(",f0")), 60);
        Tests.due("fault()", game.fault(), Bounds.NONE);
        Tests.due("playAll()", game.playAll(), 30);
    }

    private static void putAfterFull() {
        TwinPatience game = with(60);
        game.wipe();
        Tests.due("put after a wipe", game.put(packed("d,d,d,d,")), 8);
        game.put('d');
        Tests.due("playAll()", game.playAll(), 5);
        Tests.due("put after a play", game.put(packed("f1,d")), 4);
        Tests.due("playAll()", game.playAll(), 2);
    }

    private static void putAfterTheEnd() {
        TwinPatience game = Bounds.drawnOut();
        Tests.due("put", game.put(packed("d,d")), 3);
        Tests.due("fault()", game.fault(), Bounds.NONE);
        Tests.due("wipe()", game.wipe(), 3);
    }

    // ---- 18

    private static void wipeEmpty() {
        Bounds.unchanged("wipe()", TwinPatience::new, TwinPatience::wipe, 0);
        TwinPatience game = with(7);
        game.wipe();
        Tests.due("wipe()", game.wipe(), 0);
    }

    private static void wipeFull() {
        TwinPatience game = with(60);
        Tests.due("wipe()", game.wipe(), 60);
        Tests.due("count(7)", game.count(7), 0);
        Tests.due("fault()", game.fault(), 0);
    }

    private static void wipeNothingElse() {
        TwinPatience wiped = Bounds.begun();
        Tests.due("wipe()", wiped.wipe(), 6);
        TwinPatience game = Bounds.begun();
        Tests.due("count(8)", wiped.count(8), game.count(8));
        Games.write(wiped, "d,f2,1");
        Games.same("all but the pad", wiped, Games.read(game));
    }

    // ---- 19

    /** Texts and their faults, in turn. */
    private static void faults(Object... textsAndFaults) {
        for (int i = 0; i < textsAndFaults.length; i += 2) {
            fault((String) textsAndFaults[i], (Integer) textsAndFaults[i + 1]);
        }
    }

    private static void fault(String text, int due) {
        TwinPatience game = new TwinPatience();
        Games.write(game, text);
        Tests.due("the length of " + text, game.count(7), text.length());
        Tests.due("fault() of " + text, game.fault(), due);
    }

    private static void faultHouses() {
        for (int house = 0; house <= 7; house++) {
            fault("f" + house, Bounds.NONE);
            fault("d,f" + house + ",d", Bounds.NONE);
        }
    }

    private static void faultPiles() {
        for (int pile = 0; pile <= 21; pile++) {
            fault(pile + ">0", Bounds.NONE);
            fault("0>" + pile, Bounds.NONE);
            fault("d," + pile + ">" + pile + ",d", Bounds.NONE);
        }
    }

    private static void faultPilesAbove() {
        for (int pile = 22; pile <= 99; pile++) {
            fault(pile + ">0", 1);
            fault("0>" + pile, 3);
        }
    }

    private static void faultFullWithout() {
        fault("f0" + ",d".repeat(29), Bounds.NONE);
        fault("d,".repeat(28) + "1>21", Bounds.NONE);
    }

    private static void faultFullLast() {
        fault("f0" + ",d".repeat(28) + ",x", 59);
        fault("f0" + ",d".repeat(28) + ",>", 59);
        fault("d,".repeat(29) + "dd", 59);
        fault("d,".repeat(28) + "1>22", 59);
        fault("d,".repeat(29) + "f8", 59);
    }

    private static void faultFullEnds() {
        fault("d,".repeat(30), 60);
        fault("f0" + ",d".repeat(28) + ",f", 60);
        fault("f0" + ",d".repeat(28) + ",1", 60);
        fault("d,".repeat(29) + "1>", 60);
    }

    private static void faultAfterWipe() {
        TwinPatience game = new TwinPatience();
        Games.write(game, "d,1>21,d");
        game.wipe();
        game.put('f');
        Tests.due("fault()", game.fault(), 1);
        game.put('1');
        Tests.due("fault()", game.fault(), Bounds.NONE);
        game.put(',');
        Tests.due("fault()", game.fault(), 3);
        game.playAll();
        game.wipe();
        Tests.due("fault()", game.fault(), 0);
    }

    private static void faultNotPossible() {
        TwinPatience game = Bounds.drawnOut();
        Games.write(game, "d,f0,21>21,0>0");
        Tests.due("fault()", game.fault(), Bounds.NONE);
        Tests.due("playAll()", game.playAll(), 0);
    }

    private static void faultChangesNothing() {
        Bounds.unchanged("fault()", Bounds::begun, TwinPatience::fault, 6);
    }
}
