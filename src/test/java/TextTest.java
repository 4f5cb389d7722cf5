import java.util.Random;

/** Promises 8, 9 and 10: TEXTS by draws, against TextOracle. */
public final class TextTest {
    private static final String[] NAMES = {"mks", "fgw"};
    private static final int[] MOST = {300, 1};
    private static final int[] ODD_VALUES = {0, 1, -1, 2, 7, 60, 99, 300, 65536, Integer.MAX_VALUE, Integer.MIN_VALUE};

    private TextTest() {
    }

    public static void main(String[] args) {
        Random random = new Random(20261118);
        TextMaker maker = new TextMaker(random);
        int whole = 0;
        for (int i = 0; i < 60000; i++) {
            int use = random.nextInt(2);
            if (holds(random, use, maker.make(NAMES[use]))) {
                whole++;
            }
        }
        Answers.due("enough of the texts are whole", whole > 20000 && whole < 50000 ? 1 : 0, 1);
        Answers.finish();
    }

    private static boolean holds(Random random, int use, String text) {
        SixFigures x = new SixFigures();
        feedByWords(x, random, text);
        int fault = TextOracle.fault(text, NAMES[use]);
        Answers.due("text of " + text, x.text(use), fault < 0 ? 1 : -10 - fault);
        Answers.due("bytes behind " + text, x.count(11), 0);
        for (int i = 0; i < 4 && fault < 0; i++) {
            int a = value(random);
            int b = value(random);
            int c = value(random);
            int want = Math.max(0, Math.min(MOST[use], TextOracle.value(text, NAMES[use], a, b, c)));
            Answers.due("law of " + text + " with " + a + ", " + b + ", " + c, x.law(use, a, b, c), want);
        }
        return fault < 0;
    }

    private static void feedByWords(SixFigures x, Random random, String text) {
        int at = 0;
        while (at < text.length()) {
            int n = Math.min(text.length() - at, 1 + random.nextInt(8));
            long word = random.nextLong();
            for (int i = n - 1; i >= 0; i--) {
                word = word << 8 | text.charAt(at + i);
            }
            at += n;
            Answers.due("feed", x.feed(word, n), at);
        }
    }

    private static int value(Random random) {
        return random.nextBoolean() ? random.nextInt(100) : ODD_VALUES[random.nextInt(ODD_VALUES.length)];
    }
}
