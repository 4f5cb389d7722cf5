/** Holds answers against those that are due, and ends a test with exit code 1 if one was not. */
final class Answers {
    static final int BEYOND = -1000000001;
    static final int NONE = -1000000002;
    static final int STATE = -1000000003;
    static final int FULL = -1000000004;
    static final int KIND = -1000000005;

    private static int asked = 0;
    private static int wrong = 0;
    private static String by = "";

    private Answers() {
    }

    /** The sentence of a promise that the answers from here on are due by; SentencesTest reads these calls. */
    static void sentence(int promise, String words) {
        by = "[promise " + promise + ": " + words + "] ";
    }

    /** As sentence(), of the document's Terms: 1 to 4, and 0 for what stands ahead of them. */
    static void term(int number, String words) {
        by = "[terms " + number + ": " + words + "] ";
    }

    static void due(String call, long got, long want) {
        asked++;
        if (got != want) {
            wrong++;
            System.out.println(by + call + " answered " + got + ", due is " + want);
        }
    }

    static void dueAll(String calls, int[] got, int... want) {
        due(calls + ", how many", got.length, want.length);
        for (int i = 0; i < Math.min(got.length, want.length); i++) {
            due(calls + ", row " + i, got[i], want[i]);
        }
    }

    /** Feeds a text to THE TAPE, byte by byte. */
    static void feed(SixFigures x, String text) {
        for (int i = 0; i < text.length(); i++) {
            x.feed(text.charAt(i), 1);
        }
    }

    static int text(SixFigures x, int use, String text) {
        feed(x, text);
        return x.text(use);
    }

    static void finish() {
        System.out.println(asked + " answers, " + wrong + " not as due");
        if (wrong != 0 || asked == 0) {
            System.exit(1);
        }
    }
}
