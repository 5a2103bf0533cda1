/** The promises 17 to 19. */
final class TextsTest {
    private static final int NONE = -6;

    private TextsTest() {
    }

    static void run() {
        Tests.run("17: put: one to eight characters", TextsTest::put);
        Tests.run("17: put: wrong characters", TextsTest::putWrong);
        Tests.run("19: fault: all short texts", TextsTest::shortTexts);
    }

    private static void put() {
        for (int length = 1; length <= 8; length++) {
            TwinPatience game = new TwinPatience();
            Tests.due("put", game.put(RandomRunsTest.packed("d,d,d,d,".substring(0, length))), length);
            Tests.due("count(7)", game.count(7), length);
            Tests.due("fault()", game.fault(), length % 2 == 0 ? length : NONE);
        }
        TwinPatience game = new TwinPatience();
        Tests.due("the lowest 8 bits are the last character", game.put('f' * 256 + '7'), 2);
        Tests.due("fault()", game.fault(), NONE);
        Tests.due("appended", game.put(','), 3);
        Tests.due("fault()", game.fault(), 3);
        Tests.due("codes from 33", game.put(33), 4);
        Tests.due("to 126", game.put(126), 5);
        Tests.due("it is no change", game.count(8), 0);
    }

    private static void putWrong() {
        TwinPatience game = new TwinPatience();
        long[] wrong = {
            0, 32, 127, 128, 255, 10, 1, 'd' << 8, 'd' << 16 | 'd', 1L << 63, 1L << 56 | 'd', -1L, Long.MIN_VALUE,
            Long.MAX_VALUE, 'd' << 8 | 32, 32 << 8 | 'd', 200L << 56 | 0x64646464646464L, 31L << 56 | 0x64646464646464L,
            0x6400646464646464L, 0x6464646464646400L, 1L << 32 | 'd',
        };
        for (long characters : wrong) {
            Tests.due("put(" + characters + ")", game.put(characters), -2);
        }
        Tests.due("count(7)", game.count(7), 0);
        for (int code = 0; code < 256; code++) {
            TwinPatience one = new TwinPatience();
            Tests.due("put(" + code + ")", one.put(code), code >= 33 && code <= 126 ? 1 : -2);
            Tests.due("put(" + code + " and d)", one.put(code << 8 | 'd') > 0 ? 1 : 0, code >= 33 && code <= 126 || code == 0 ? 1 : 0);
        }
    }

    /** All texts of up to five of the signs that a play has, and one that it has not, against the model. */
    private static void shortTexts() {
        char[] signs = {'d', 'f', '>', ',', '0', '1', '2', '7', '8', 'x'};
        for (int length = 1; length <= 5; length++) {
            int all = (int) Math.pow(signs.length, length);
            for (int number = 0; number < all; number++) {
                StringBuilder text = new StringBuilder();
                for (int rest = number, i = 0; i < length; i++) {
                    text.append(signs[rest % signs.length]);
                    rest /= signs.length;
                }
                TwinPatience game = new TwinPatience();
                Model model = new Model();
                game.put(RandomRunsTest.packed(text.toString()));
                model.pad = text.toString();
                Tests.due("fault() of " + text, game.fault(), model.fault());
            }
        }
    }
}
