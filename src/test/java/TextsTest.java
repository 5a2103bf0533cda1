/** The promises 17 to 19. */
final class TextsTest {
    private static final int NONE = -6;

    private TextsTest() {
    }

    static void run() {
        Tests.run("17: put: one to eight characters", TextsTest::put);
        Tests.run("17: put: wrong characters", TextsTest::putWrong);
        Tests.run("17: put: sixty characters at most", TextsTest::putTooMany);
        Tests.run("18: wipe", TextsTest::wipe);
        Tests.run("19: fault: texts without one", TextsTest::texts);
        Tests.run("19: fault: texts with one", TextsTest::faults);
        Tests.run("19: fault: all short texts", TextsTest::shortTexts);
    }

    private static void put() {
        for (int length = 1; length <= 8; length++) {
            TwinPatience game = new TwinPatience();
            Tests.due("put", game.put(RandomRunsTest.packed("d,d,d,d,".substring(0, length))), length);
            Tests.due("count(7)", game.count(7), length);
            Tests.due("fault()", game.fault(), length % 2 == 0 ? length : NONE);
        }
        TwinPatience game = new TwinPatience();
        Tests.due("the lowest 8 bits are the last character", game.put('f' * 256 + '7'), 2);
        Tests.due("fault()", game.fault(), NONE);
        Tests.due("appended", game.put(','), 3);
        Tests.due("fault()", game.fault(), 3);
        Tests.due("codes from 33", game.put(33), 4);
        Tests.due("to 126", game.put(126), 5);
        Tests.due("it is no change", game.count(8), 0);
    }

    private static void putWrong() {
        TwinPatience game = new TwinPatience();
        long[] wrong = {
            0, 32, 127, 128, 255, 10, 1, 'd' << 8, 'd' << 16 | 'd', 1L << 63, 1L << 56 | 'd', -1L, Long.MIN_VALUE,
            Long.MAX_VALUE, 'd' << 8 | 32, 32 << 8 | 'd', 200L << 56 | 0x64646464646464L, 31L << 56 | 0x64646464646464L,
            0x6400646464646464L, 0x6464646464646400L, 1L << 32 | 'd',
        };
        for (long characters : wrong) {
            Tests.due("put(" + characters + ")", game.put(characters), -2);
        }
        Tests.due("count(7)", game.count(7), 0);
        for (int code = 0; code < 256; code++) {
            TwinPatience one = new TwinPatience();
            Tests.due("put(" + code + ")", one.put(code), code >= 33 && code <= 126 ? 1 : -2);
            Tests.due("put(" + code + " and d)", one.put(code << 8 | 'd') > 0 ? 1 : 0, code >= 33 && code <= 126 || code == 0 ? 1 : 0);
        }
    }

    private static void putTooMany() {
        TwinPatience game = new TwinPatience();
        Games.write(game, "d,".repeat(27));
        Tests.due("count(7)", game.count(7), 54);
        Tests.due("seven more", game.put(RandomRunsTest.packed("d,d,d,d")), -4);
        Tests.due("count(7)", game.count(7), 54);
        Tests.due("six more", game.put(RandomRunsTest.packed("d,d,d,")), 60);
        Tests.due("one more", game.put('d'), -4);
        Tests.due("wrong characters come first", game.put(32), -2);
        Tests.due("no character", game.put(0), -2);
        Tests.due("count(7)", game.count(7), 60);
        Tests.due("fault()", game.fault(), 60);
        Tests.due("playAll()", game.playAll(), -3);
    }

    private static void wipe() {
        TwinPatience game = new TwinPatience();
        Tests.due("wipe()", game.wipe(), 0);
        Games.write(game, "d,d,d,d,d,d");
        Tests.due("wipe()", game.wipe(), 11);
        Tests.due("wipe()", game.wipe(), 0);
        Tests.due("count(7)", game.count(7), 0);
        Tests.due("it is no change", game.count(8), 0);
        Tests.due("put", game.put('d'), 1);
        Tests.due("nothing of before is left", game.fault(), NONE);
    }

    private static void fault(String text, int want) {
        TwinPatience game = new TwinPatience();
        Games.write(game, text);
        Tests.due("fault() of " + text, game.fault(), want);
        Tests.due("the pad stays", game.count(7), text.length());
    }

    private static void texts() {
        for (int pile = 0; pile <= 21; pile++) {
            fault(pile + ">" + (21 - pile), NONE);
            fault("d," + pile + ">0,d", NONE);
        }
        for (int house = 0; house <= 7; house++) {
            fault("f" + house, NONE);
            fault("f" + house + ",d,f0", NONE);
        }
        fault("10>11,12>13,14>15,16>17,18>19,20>21,10>11,12>13,14>15,16>1", NONE);
    }

    private static void faults() {
        String[] texts = {"", "e", "dd", "d,", ",d", "d,,d", "f", "f8", "fd", "f77", "f7,", "f9",
            "22>5", "23>5", "30>5", "99>5", "01>2", "00>2", "1>01", "1>22", "1>30", "21>21>", "2>1>3", "123>4", "100>4",
            "1", "12", "1>", "1>d", "1d", "1,", ">1", "1>>2", "d>1", "1>2d", "1>2f", "1>2,", "1>2,3", "1>2,3>", "1>21,22>1",
            "1>211", "1>199", "D", "F1", "d,d,d,d,d,d,d,d,d,d,d!", "0>0,0>00", "d.", "f1f", "2", "20", "20,", "1>2 ".trim() + "~"};
        int[] wanted = {0, 0, 1, 2, 0, 2, 1, 1, 1, 2, 3, 1,
            1, 1, 1, 1, 1, 1, 3, 3, 3, 5, 3, 2, 2,
            1, 2, 2, 2, 1, 1, 0, 2, 1, 3, 3, 4, 5, 6, 6,
            4, 4, 0, 0, 21, 7, 1, 2, 1, 2, 2, 3};
        Tests.due("as many faults as texts", wanted.length, texts.length);
        for (int i = 0; i < texts.length; i++) {
            fault(texts[i], wanted[i]);
        }
    }

    /** All texts of up to five of the signs that a play has, and one that it has not, against the model. */
    private static void shortTexts() {
        char[] signs = {'d', 'f', '>', ',', '0', '1', '2', '7', '8', 'x'};
        for (int length = 1; length <= 5; length++) {
            int all = (int) Math.pow(signs.length, length);
            for (int number = 0; number < all; number++) {
                StringBuilder text = new StringBuilder();
                for (int rest = number, i = 0; i < length; i++) {
                    text.append(signs[rest % signs.length]);
                    rest /= signs.length;
                }
                TwinPatience game = new TwinPatience();
                Model model = new Model();
                game.put(RandomRunsTest.packed(text.toString()));
                model.pad = text.toString();
                Tests.due("fault() of " + text, game.fault(), model.fault());
            }
        }
    }
}
