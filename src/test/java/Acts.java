/** Acts that the tests of the document's sentences have in common. */
final class Acts {
    static final int LAST_SECOND = 999999;
    static final int MAX = Integer.MAX_VALUE;
    static final int MIN = Integer.MIN_VALUE;
    private static final int FACTOR = 1103515245;
    private static final int MORE = 12345;

    private Acts() {
    }

    /** SECONDS pass up to one, in as few calls as may be: an object has just 512. */
    static void passTo(SixFigures x, int second) {
        int left = second - x.count(2);
        while (left > 0) {
            int n = Math.min(9999, left);
            x.pass(n);
            left -= n;
        }
    }

    /** Feeds a text to THE TAPE, eight bytes at a time. */
    static void feed(SixFigures x, String text) {
        for (int at = 0; at < text.length(); at += 8) {
            int n = Math.min(8, text.length() - at);
            long word = 0;
            for (int i = n - 1; i >= 0; i--) {
                word = word << 8 | text.charAt(at + i);
            }
            x.feed(word, n);
        }
    }

    static int nextZ(int z) {
        return z * FACTOR + MORE;
    }

    /** The z from which the next one is zThen. */
    static int zAhead(int zThen) {
        int inverse = FACTOR;
        for (int i = 0; i < 5; i++) {
            inverse *= 2 - FACTOR * inverse;
        }
        return (zThen - MORE) * inverse;
    }

    /** The z from which a draw gives a number of 0 to 16777215. */
    static int zThatDraws(int number) {
        return zAhead(number << 8);
    }

    /** The z from which a draw gives a number, and the one behind it one with the rest by many. */
    static int zThatDraws(int number, int many, int rest) {
        for (int low = 0; low < 256; low++) {
            int then = number << 8 | low;
            if ((nextZ(then) >>> 8) % many == rest) {
                return zAhead(then);
            }
        }
        throw new IllegalStateException("no such z");
    }

    /** A CODE by a WAY, with a number drawn for it that is told. */
    static int ask(SixFigures x, int way, int drawn) {
        x.seed(zThatDraws(drawn));
        return x.ask(way);
    }

    /** An object with one WAY, without slips, and with so many SECONDS till a CODE comes (if its KIND has it so). */
    static SixFigures withWay(int km, int far, int late) {
        SixFigures x = new SixFigures();
        x.way(km, far, 0);
        Answers.text(x, 0, String.valueOf(late));
        Answers.text(x, 1, "0");
        return x;
    }

    /** Nothing as at first, THE DOOR SHUT, an IMAGE of another state, little room left anywhere. */
    static void fill(SixFigures x) {
        int[][] ways = {{3, 5, 0}, {14, 20, 1}, {25, 30, 1}, {36, 0, 2}, {47, 70, 5}, {58, 9, 3}};
        for (int[] way : ways) {
            x.way(way[0], way[1], way[2]);
        }
        feed(x, "s+m*2+k");
        x.text(0);
        feed(x, "f>g*9+w");
        x.text(1);
        int[] rules = {4, 44, 2, 500};
        for (int what = 0; what < 4; what++) {
            x.rule(what, rules[what]);
        }
        for (int i = 0; i < 12; i++) {
            ask(x, i % 6, 1000 + i);
            x.pass(1);
        }
        x.enter(1008);
        x.tell(4);
        x.feed('7', 1);
        x.image();
        x.text(1);
        feed(x, "f>g*9+w");
        x.text(1);
        x.change(1, 2, 1);
        x.rule(4, 1);
        x.enter(1);
        x.enter(2);
        x.seed(31);
        x.voice(0, 3, 1);
        x.check();
        feed(x, "m*2+k*3+s" + "+1".repeat(19) + "0");
        int second = x.count(2);
        for (int i = 1; i <= 19; i++) {
            x.tell((second + i) % 60 + 6);
        }
        x.tell(-7);
        int[][] sheets = {{8, 6}, {16, 5}, {8, 40}};
        for (int sheet = 0; sheet < 3; sheet++) {
            x.sheet(sheet, sheets[sheet][0], sheets[sheet][1]);
            for (int i = 0; i < sheets[sheet][1]; i++) {
                x.put(sheet, i, 10 * sheet + i + 1);
            }
        }
    }

    static int[] counts(SixFigures x) {
        int[] all = new int[15];
        for (int i = 0; i < all.length; i++) {
            all[i] = x.count(i);
        }
        return all;
    }
}
