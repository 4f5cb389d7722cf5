/** Texts and the tape: each sentence of Terms 2, and of promises 8 to 10, at its bounds. */
public final class TextBoundsTest {
    private static final int BEYOND = Answers.BEYOND;
    private static final int FULL = Answers.FULL;
    private static final int MAX = Acts.MAX;
    private static final int MIN = Acts.MIN;
    private static final String SIGNS = "|&<=>+-*/%";

    private TextBoundsTest() {
    }

    public static void main(String[] args) {
        theTape();
        anyAndAll();
        compared();
        sumsAndProducts();
        operands();
        noBlanks();
        openAtOnce();
        wraps();
        byZero();
        truths();
        faults();
        faultsByByte();
        late();
        slips();
        promise8();
        promise8Words();
        promise9();
        promise10();
        Answers.finish();
    }

    private static void due(String call, long got, long want) {
        Answers.due(call, got, want);
    }

    /** That a TEXT of LATE is taken, and what it gives. */
    private static void gives(String text, int a, int b, int c, int want) {
        SixFigures x = new SixFigures();
        due(text, Answers.text(x, 0, text), 1);
        due(text + " with " + a + " " + b + " " + c, x.law(0, a, b, c), want);
    }

    private static void fault(String text, int place) {
        SixFigures x = new SixFigures();
        due(text + ", FAULT", Answers.text(x, 0, text), -10 - place);
        due(text + ", no TEXT", x.law(0, 1, 0, 0), 4);
    }

    private static void theTape() {
        Answers.term(2, "TEXTS are read from THE TAPE (bytes, at most 50):");
        String most = "9" + "-1-1+1".repeat(8);
        SixFigures x = new SixFigures();
        due("49 bytes", most.length(), 49);
        due("49 bytes", Answers.text(x, 0, most), 1);
        due("49 bytes", x.law(0, 0, 0, 0), 1);
        Answers.feed(x, most + "7");
        due("50 bytes", x.count(11), 50);
        due("a byte more", x.feed('7', 1), FULL);
        due("50 bytes", x.text(0), 1);
        due("50 bytes", x.law(0, 0, 0, 0), 1 + 16);
        due("one byte", Answers.text(x, 0, "k"), 1);
        due("one byte", x.law(0, 0, 8, 0), 8);
        due("no bytes", x.text(0), -10);
        Answers.feed(x, "1" + "+((1))".repeat(8));
        due("many brackets", x.text(0), 1);
        due("many brackets", x.law(0, 0, 0, 0), 9);
        Answers.feed(x, "(((((1" + "+1".repeat(19) + ")))))+");
        due("50 bytes", x.count(11), 50);
        due("too early at the end of THE TAPE", x.text(0), -60);
    }

    private static void anyAndAll() {
        Answers.term(2, "T: A { | A }.");
        gives("m|k", 0, 0, 0, 0);
        gives("m|k", 0, 2, 0, 1);
        gives("m|k|s", 0, 0, 3, 1);
        gives("m|k&s", 1, 0, 0, 1);
        gives("m&k|s", 0, 0, 1, 1);
        Answers.term(2, "A: B { & B }.");
        gives("m&k", 2, 4, 0, 1);
        gives("m&k&s", 1, 1, 0, 0);
        gives("m<k&s", 1, 2, 2, 1);
        gives("m&k<s", 1, 1, 2, 1);
    }

    private static void compared() {
        Answers.term(2, "B: S, or S < S, S = S, S > S.");
        int[][] pairs = {{1, 2}, {2, 2}, {3, 2}, {MIN, MAX}, {MAX, MIN}, {-1, 0}};
        for (int[] pair : pairs) {
            gives("m<k", pair[0], pair[1], 0, pair[0] < pair[1] ? 1 : 0);
            gives("m=k", pair[0], pair[1], 0, pair[0] == pair[1] ? 1 : 0);
            gives("m>k", pair[0], pair[1], 0, pair[0] > pair[1] ? 1 : 0);
        }
        gives("m", 7, 0, 0, 7);
        gives("m+1<k+1", 1, 2, 0, 1);
        gives("m<k|k<m", 2, 1, 0, 1);
        gives("(m<k)=s", 1, 2, 1, 1);
        for (String first : new String[] {"<", "=", ">"}) {
            for (String second : new String[] {"<", "=", ">"}) {
                fault("1" + first + "2" + second + "3", 3);
                gives("0&1" + first + "2|1" + second + "2&0", 0, 0, 0, 0);
            }
        }
    }

    private static void sumsAndProducts() {
        Answers.term(2, "S: P { + P, - P }.");
        gives("m+k-s+1", 10, 5, 2, 14);
        gives("m-k-s", 10, 5, 2, 3);
        gives("m-k+s", 10, 5, 2, 7);
        gives("m+k*s", 1, 2, 3, 7);
        fault("+1", 0);
        fault("-1", 0);
        fault("1--1", 2);
        Answers.term(2, "P: Q { * Q, / Q, % Q }.");
        gives("m*k/s", 7, 3, 2, 10);
        gives("m/k*s", 7, 3, 2, 4);
        gives("m%k*s", 7, 4, 2, 6);
        gives("m*k%s", 7, 3, 4, 1);
        gives("m/k%s", 100, 7, 4, 2);
        fault("*1", 0);
        fault("1*/1", 2);
    }

    private static void operands() {
        Answers.term(2, "Q: a NUMBER of 1 to 4 digits, a NAME, ! Q, ( T ).");
        gives("0", 0, 0, 0, 0);
        gives("7", 0, 0, 0, 7);
        gives("9999-9990", 0, 0, 0, 9);
        gives("0000", 0, 0, 0, 0);
        gives("0008", 0, 0, 0, 8);
        gives("9999=9*1111", 0, 0, 0, 1);
        fault("00000", 4);
        fault("12345", 4);
        fault("1+99999", 6);
        gives("m", 5, 6, 7, 5);
        gives("k", 5, 6, 7, 6);
        gives("s", 5, 6, 7, 7);
        fault("mk", 1);
        fault("1m", 1);
        fault("m1", 1);
        gives("!m", 0, 0, 0, 1);
        gives("!m", -1, 0, 0, 0);
        gives("!!m", 5, 0, 0, 1);
        gives("!m+k", 0, 4, 0, 5);
        gives("!(m+k)", 0, 4, 0, 0);
        fault("!", 1);
        fault("1!", 1);
        gives("(m)", 5, 0, 0, 5);
        gives("(m|k)+2", 5, 0, 0, 3);
        gives("(m<k)*9", 1, 2, 0, 9);
        fault("()", 1);
        fault("(", 1);
        fault("(1", 2);
        fault("1)", 1);
        fault("(1))", 3);
        fault("(1)(1)", 3);
        fault("(1)1", 3);
    }

    private static void noBlanks() {
        Answers.term(2, "No blanks.");
        fault(" 1", 0);
        fault("1 ", 1);
        fault("1 +1", 1);
        fault("1+ 1", 2);
        fault("\t1", 0);
        fault("1\n", 1);
    }

    private static void openAtOnce() {
        Answers.term(2, "At most 5 of ! and ( are open at once.");
        gives("!!!!!m", 0, 0, 0, 1);
        fault("!!!!!!m", 5);
        gives("(((((m)))))", 4, 0, 0, 4);
        fault("((((((m))))))", 5);
        gives("!(!(!m))", 5, 0, 0, 0);
        fault("!(!(!(m)))", 5);
        fault("(((((!m)))))", 5);
        fault("!!!!!(m)", 5);
        // What is closed is open no more: a ! by its Q, a ( by its ).
        gives("!!!!!m+!!!!!k", 0, 0, 0, 2);
        gives("(((((m)))))*(((((k)))))", 4, 3, 0, 12);
        gives("(!m+!k+!s+(m)+(k)+(s))", 0, 0, 0, 3);
        gives("((((!m+!k))))", 0, 0, 0, 2);
        gives("((((!m+(k)))))", 0, 4, 0, 5);
        gives("!!!!(m)+!!!!(k)", 3, 0, 0, 1);
        gives("((((m))))+(((((k)))))", 3, 4, 0, 7);
        fault("((((!!m))))", 5);
        fault("((((m+!!k))))", 7);
        fault("((((m+!k+((s))))))", 10);
    }

    private static void wraps() {
        Answers.term(2, "Ints that wrap; / cut, % the rest that it leaves, both by 0 are 0;");
        gives("m+1=k", MAX, MIN, 0, 1);
        gives("m-1=k", MIN, MAX, 0, 1);
        gives("m*2=k", MAX, -2, 0, 1);
        gives("m*k=s", 65536, 65536, 0, 1);
        gives("m*k=s", 46341, 46341, -2147479015, 1);
        gives("0-m=m", MIN, 0, 0, 1);
        gives("9999*9999*9999=s", 0, 0, (int) (9999L * 9999L * 9999L), 1);
        gives("m/k=s", 7, 2, 3, 1);
        gives("m/k=s", -7, 2, -3, 1);
        gives("m/k=s", 7, -2, -3, 1);
        gives("m/k=s", -7, -2, 3, 1);
        gives("m/k=s", MIN, -1, MIN, 1);
        gives("m%k=s", 7, 2, 1, 1);
        gives("m%k=s", -7, 2, -1, 1);
        gives("m%k=s", 7, -2, 1, 1);
        gives("m%k=s", -7, -2, -1, 1);
        gives("m%k=s", MIN, -1, 0, 1);
    }

    private static void byZero() {
        for (int v : new int[] {0, 1, -1, MAX, MIN}) {
            gives("m/k+7", v, 0, 0, 7);
            gives("m%k+7", v, 0, 0, 7);
        }
        gives("9/(m-k)", 3, 3, 0, 0);
        gives("9%(m-k)", 3, 3, 0, 0);
        gives("5+9/0*9", 0, 0, 0, 5);
    }

    private static void truths() {
        Answers.term(2, "| & < = > ! are 1 or 0, what is not 0 being true; all is worked out.");
        for (int v : new int[] {1, 2, -1, MAX, MIN}) {
            gives("m|0", v, 0, 0, 1);
            gives("0|m", v, 0, 0, 1);
            gives("m&m", v, 0, 0, 1);
            gives("m&0", v, 0, 0, 0);
            gives("0&m", v, 0, 0, 0);
            gives("!m", v, 0, 0, 0);
            gives("!!m", v, 0, 0, 1);
        }
        gives("0|0", 0, 0, 0, 0);
        gives("!0", 0, 0, 0, 1);
        gives("(m>k)*5", 9, 2, 0, 5);
        gives("(m=m)*5", 9, 2, 0, 5);
        gives("(k<m)*5", 9, 2, 0, 5);
        gives("1|9/0", 0, 0, 0, 1);
        gives("0&9%0", 0, 0, 0, 0);
    }

    private static void faults() {
        Answers.term(2, "FAULT: the place of the first byte with which no TEXT goes on; "
            + "how many there are, if it ends too early.");
        fault("", 0);
        fault("x", 0);
        fault("1+x", 2);
        fault("1+(2*x", 5);
        fault("x+y+z", 0);
        fault("1<2<(", 3);
        fault("1+", 2);
        fault("1<", 2);
        fault("1|2&", 4);
        fault("(1<2", 4);
        fault("!!!", 3);
        fault("!!!!!", 5);
        fault("(((((", 5);
        fault("((((((", 5);
        fault("1+1+1+1+1+1+1+1+1+1+1+1+1+1+1+1+1+1+1+1+1+1+1+1+1+", 50);
        fault("1+1+1+1+1+1+1+1+1+1+1+1+1+1+1+1+1+1+1+1+1+1+1+1+1)", 49);
    }

    /** What each of the 256 bytes does at a place: whether it ends a TEXT, goes on, or is the FAULT. */
    private static void byteBehind(String ahead, String ends, String goesOn) {
        for (int b = 0; b < 256; b++) {
            SixFigures x = new SixFigures();
            Answers.feed(x, ahead + (char) b);
            int place = ahead.length();
            int want = ends.indexOf((char) b) >= 0 ? 1
                : goesOn.indexOf((char) b) >= 0 ? -10 - (place + 1) : -10 - place;
            due("byte " + b + " behind " + ahead, x.text(0), want);
        }
    }

    private static void faultsByByte() {
        String operand = "0123456789mks";
        byteBehind("", operand, "!(");
        byteBehind("m", "", SIGNS);
        byteBehind("1", "0123456789", SIGNS);
        byteBehind("123", "0123456789", SIGNS);
        byteBehind("1234", "", SIGNS);
        byteBehind("1+", operand, "!(");
        byteBehind("1|", operand, "!(");
        byteBehind("!", operand, "!(");
        byteBehind("!!!!!", operand, "");
        byteBehind("(((((", "", operand);
        byteBehind("(1", ")", "0123456789" + SIGNS);
        byteBehind("(1)", "", SIGNS);
        byteBehind("m<k", "", "|&+-*/%");
        byteBehind("m<k+1", "0123456789", "|&+-*/%");
        byteBehind("m<k|s", "", SIGNS);
        byteBehind("m<k&s", "", SIGNS);
        byteBehind("(m<k", ")", "|&+-*/%");
        byteBehind("m<(k", ")", SIGNS);
        byteBehind("m<(k)", "", "|&+-*/%");
    }

    private static void late() {
        Answers.term(2, "USES: 0 LATE, NAMES m m, k KIND, s the rest of SECOND by 60; held within 0 to 300; "
            + "without a TEXT 3+m.");
        SixFigures x = new SixFigures();
        x.way(13, 0, 0);
        x.way(9, 0, 0);
        x.way(0, 0, 0);
        due("without a TEXT", x.ofWay(0, 5), 6);
        due("without a TEXT, the greatest m", x.ofWay(1, 5), 12);
        due("without a TEXT, the least m", x.ofWay(2, 5), 3);
        Answers.text(x, 0, "m*20+k");
        due("m and KIND", x.ofWay(0, 5), 61);
        due("m and KIND", x.ofWay(1, 5), 180);
        x.become(0, 49);
        due("m and KIND of SHARED", x.ofWay(0, 5), 184 + 9);
        Answers.text(x, 0, "s+1");
        int[] passed = {59, 1, 59, 1};
        int[] rests = {59, 0, 59, 0};
        due("the rest at SECOND 0", x.ofWay(1, 5), 1);
        for (int i = 0; i < 4; i++) {
            x.pass(passed[i]);
            due("the rest at SECOND " + x.count(2), x.ofWay(1, 5), rests[i] + 1);
        }
        Acts.passTo(x, Acts.LAST_SECOND);
        due("the rest at the last SECOND", x.ofWay(1, 5), 39 + 1);
        int[] values = {MIN, -1, 0, 1, 299, 300, 301, MAX};
        int[] held = {0, 0, 0, 1, 299, 300, 300, 300};
        Answers.text(x, 0, "m");
        for (int i = 0; i < values.length; i++) {
            due("held, " + values[i], x.law(0, values[i], 0, 0), held[i]);
        }
    }

    private static void slips() {
        Answers.term(2, "1 SLIPS (figures that one mistypes), NAMES f FAR, g FIGURES, w WRONG; held within 0 to 1; "
            + "without a TEXT f>60.");
        SixFigures x = new SixFigures();
        x.way(60, 60, 0);
        due("without a TEXT, 60", x.law(1, 60, 0, 0), 0);
        due("without a TEXT, 61", x.law(1, 61, 0, 0), 1);
        due("FAR 60", x.fetched(0, 0), 1);
        x.change(0, 0, 61);
        due("FAR 61", x.fetched(0, 0), 0);
        Answers.text(x, 1, "f=61&g=6&w=2");
        due("WRONG 0", x.fetched(0, 0), 1);
        x.enter(0);
        due("WRONG 1", x.fetched(0, 0), 1);
        x.enter(0);
        due("WRONG 2", x.fetched(0, 0), 0);
        x.rule(0, 5);
        due("other FIGURES", x.fetched(0, 0), 1);
        x.rule(0, 6);
        x.change(0, 0, 60);
        due("another FAR", x.fetched(0, 0), 1);
        Answers.text(x, 1, "f-g-w");
        int[] values = {MIN, -1, 0, 1, 2, MAX};
        int[] held = {0, 0, 0, 1, 1, 1};
        for (int i = 0; i < values.length; i++) {
            due("held, " + values[i], x.law(1, values[i], 0, 0), held[i]);
        }
        due("the NAMES of the other USE", Answers.text(x, 1, "m"), -10);
        due("the NAMES of the other USE", Answers.text(x, 1, "f+s"), -12);
        due("the NAMES of the other USE", Answers.text(x, 0, "w"), -10);
    }

    private static void promise8() {
        Answers.sentence(8, "The n lowest bytes (1 .. 8) of a word, the lowest first, come to THE TAPE: "
            + "how many there are.");
        SixFigures x = new SixFigures();
        due("none at first", x.count(11), 0);
        int size = 0;
        for (int n = 1; n <= 8; n++) {
            size += n;
            due(n + " bytes", x.feed(0, n), size);
            due("how many", x.count(11), size);
        }
        Answers.sentence(8, "BEYOND.");
        due("below", x.feed(0, 0), BEYOND);
        due("further below", x.feed(0, -1), BEYOND);
        due("above", x.feed(0, 9), BEYOND);
        due("far below", x.feed(0, MIN), BEYOND);
        due("far above", x.feed(0, MAX), BEYOND);
        due("how many", x.count(11), 36);
        Answers.sentence(8, "FULL.");
        x.feed(0, 8);
        due("up to 49", x.feed(0, 5), 49);
        due("above 50", x.feed(0, 2), FULL);
        due("far above 50", x.feed(0, 8), FULL);
        due("above 50, yet BEYOND is asked first", x.feed(0, 9), BEYOND);
        due("none came", x.count(11), 49);
        due("just 50", x.feed(0, 1), 50);
        due("one more", x.feed(0, 1), FULL);
        due("one more, yet BEYOND is asked first", x.feed(0, 0), BEYOND);
        x.text(0);
        due("empty again", x.feed(0, 1), 1);
    }

    private static void promise8Words() {
        Answers.sentence(8, "The n lowest bytes (1 .. 8) of a word, the lowest first, come to THE TAPE: "
            + "how many there are.");
        String text = "1234-123";
        long word = 0;
        for (int i = 7; i >= 0; i--) {
            word = word << 8 | text.charAt(i);
        }
        int[] gives = {1, 12, 123, 300, 300, 300, 300, 300};
        for (int n = 1; n <= 8; n++) {
            SixFigures x = new SixFigures();
            x.feed(word, n);
            // Behind the fifth byte the TEXT would end too early.
            due(n + " of the word's bytes", x.text(0), n == 5 ? -15 : 1);
            due("gives", x.law(0, -3, 0, 0), n == 5 ? 0 : gives[n - 1]);
        }
        SixFigures y = new SixFigures();
        y.feed(word | 0xFFL << 56, 7);
        due("a higher byte doesn't come", y.text(0), 1);
        y.feed(word | 0xFFL << 56, 8);
        due("the highest of 8 does", y.text(0), -17);
        y.feed(-1L, 1);
        due("byte 255", y.text(0), -10);
        y.feed(0x16D, 1);
        due("the lowest byte alone", y.text(0), 1);
    }

    private static void promise9() {
        Answers.sentence(9, "THE TAPE, which is empty then, is the TEXT of a USE (0, 1), in place of one ahead: 1.");
        SixFigures x = new SixFigures();
        due("the first", Answers.text(x, 0, "11"), 1);
        due("THE TAPE is empty", x.count(11), 0);
        due("of USE 0", x.law(0, 0, 0, 0), 11);
        due("USE 1 has none", x.law(1, 61, 0, 0), 1);
        due("of USE 1", Answers.text(x, 1, "g"), 1);
        due("of USE 1", x.law(1, 61, 0, 0), 0);
        due("in place of one ahead", Answers.text(x, 0, "m+12"), 1);
        due("in place of one ahead", x.law(0, 1, 0, 0), 13);
        due("a shorter one", Answers.text(x, 0, "s"), 1);
        due("a shorter one", x.law(0, 1, 2, 3), 3);
        due("the longest one", Answers.text(x, 0, "!m" + "+m".repeat(24)), 1);
        due("the longest one", x.law(0, 2, 0, 0), 48);
        due("a longer one", Answers.text(x, 0, "!!!m"), 1);
        due("a longer one", x.law(0, 7, 0, 0), 0);
        due("nothing is left of it", Answers.text(x, 0, "m"), 1);
        due("nothing is left of it", x.law(0, 7, 0, 0), 7);
        due("USE 1 stays", x.law(1, 0, 1, 0), 1);
        Answers.sentence(9, "BEYOND (THE TAPE stays).");
        Answers.feed(x, "k+5");
        due("below", x.text(-1), BEYOND);
        due("above", x.text(2), BEYOND);
        due("far below", x.text(MIN), BEYOND);
        due("far above", x.text(MAX), BEYOND);
        due("THE TAPE stays", x.count(11), 3);
        due("THE TAPE stays", x.text(0), 1);
        due("THE TAPE stays", x.law(0, 0, 6, 0), 11);
        Answers.sentence(9, "-10 less the FAULT (no ERROR; the one ahead stays).");
        int[] told = {x.told(1), x.told(2), x.told(3), x.told(4), x.told(5)};
        due("at place 0", Answers.text(x, 0, "?"), -10);
        due("at place 3", Answers.text(x, 0, "m+m?"), -13);
        due("too early", Answers.text(x, 0, "m+"), -12);
        due("empty", x.text(0), -10);
        due("at place 49", Answers.text(x, 0, "1+".repeat(24) + "1?"), -59);
        due("at the end of 50", Answers.text(x, 0, "1+".repeat(25)), -60);
        due("THE TAPE is empty", x.count(11), 0);
        due("the one ahead stays", x.law(0, 0, 6, 0), 11);
        due("of USE 1", Answers.text(x, 1, "g?"), -11);
        due("the one ahead stays", x.law(1, 0, 1, 0), 1);
        Answers.dueAll("no ERROR", new int[] {x.told(1), x.told(2), x.told(3), x.told(4), x.told(5)}, told);
        SixFigures y = new SixFigures();
        Answers.text(y, 0, "m?");
        due("without one ahead", y.law(0, 4, 0, 0), 7);
    }

    private static void promise10() {
        Answers.sentence(10, "What a USE gives with its NAMES in order as a, b, c.");
        SixFigures x = new SixFigures();
        due("without a TEXT", x.law(0, 0, 99, 99), 3);
        due("without a TEXT, held", x.law(0, 297, 0, 0), 300);
        due("without a TEXT, held", x.law(0, 298, 0, 0), 300);
        due("without a TEXT, held", x.law(0, -3, 0, 0), 0);
        due("without a TEXT, held", x.law(0, -4, 0, 0), 0);
        due("without a TEXT, wraps", x.law(0, MAX, 0, 0), 0);
        due("without a TEXT", x.law(1, 61, 99, 99), 1);
        due("without a TEXT", x.law(1, MIN, 99, 99), 0);
        Answers.text(x, 0, "m*100+k*10+s");
        due("in order", x.law(0, 2, 3, 4), 234);
        Answers.text(x, 1, "f=1&g=2&w=3");
        due("in order", x.law(1, 1, 2, 3), 1);
        due("in order", x.law(1, 3, 2, 1), 0);
        Answers.sentence(10, "BEYOND.");
        due("below", x.law(-1, 0, 0, 0), BEYOND);
        due("above", x.law(2, 0, 0, 0), BEYOND);
        due("far below", x.law(MIN, 0, 0, 0), BEYOND);
        due("far above", x.law(MAX, 0, 0, 0), BEYOND);
    }
}
