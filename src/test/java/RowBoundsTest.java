/** Voices, sheets, images, what is told: sentences of Terms 3 and 4, and of promises 29 to 41, at their bounds. */
public final class RowBoundsTest {
    private static final int BEYOND = Answers.BEYOND;
    private static final int NONE = Answers.NONE;
    private static final int STATE = Answers.STATE;
    private static final int FULL = Answers.FULL;
    private static final int KIND = Answers.KIND;
    private static final int MAX = Acts.MAX;
    private static final int MIN = Acts.MIN;

    private RowBoundsTest() {
    }

    public static void main(String[] args) {
        voices();
        bodies();
        bodiesAreChosen();
        theTrace();
        sheets();
        promise29();
        promise30();
        promise31();
        promise32();
        promise33Errors();
        promise33Moves();
        promise34();
        promise35();
        promise36();
        promise37();
        promise37All();
        promise38();
        promise39();
        promise40();
        promise41();
        Answers.finish();
    }

    private static void due(String call, long got, long want) {
        Answers.due(call, got, want);
    }

    /** What a VOICE of WAY 5, of a KIND and m, answers. */
    private static void speaks(int km, int act, int x, int want) {
        SixFigures door = new SixFigures();
        for (int i = 0; i < 5; i++) {
            door.way(0, 0, 0);
        }
        door.way(km, 0, 0);
        due("km " + km + ", act " + act + ", x " + x, door.voice(5, act, x), want);
    }

    private static void voices() {
        Answers.term(3, "VOICES of a WAY, with a number x (ints that go round); n is the number, m as told: "
            + "0 sends, 1 holds, 2 shuts, 3 tells.");
        speaks(9, 0, 0, 5);
        speaks(9, 0, MAX - 5, MAX);
        speaks(9, 0, MAX - 4, MIN);
        speaks(9, 0, MAX, MIN + 4);
        speaks(9, 1, 0, 10);
        speaks(9, 1, 1073741818, 2147483646);
        speaks(9, 1, 1073741819, MIN);
        speaks(9, 2, 0, -9);
        speaks(0, 2, MIN, MIN);
        speaks(9, 2, MIN + 9, MIN);
        speaks(9, 2, MIN + 8, MAX);
        speaks(9, 3, 0, 10 ^ -9);
        speaks(19, 0, 715827882 - 5, 2147483646);
        speaks(19, 0, 715827883 - 5, MIN + 1);
        speaks(30, 2, MIN, MIN);
        speaks(39, 2, MIN, -(MIN - 9));
        speaks(59, 1, MAX, (MIN + 5) * 2 + 8);
        SixFigures x = new SixFigures();
        x.way(9, 0, 0);
        due("WAY 0 has the number 0", x.voice(0, 0, 44), 44);
    }

    private static void bodies() {
        Answers.term(3, "BODIES: WAY: 10 sends: x + n.");
        speaks(7, 0, 100, 105);
        Answers.term(3, "11 holds: sends(x) * 2.");
        speaks(7, 1, 100, 210);
        Answers.term(3, "12 shuts: x - m.");
        speaks(7, 2, 100, 93);
        Answers.term(3, "13 tells: holds(x) ^ shuts(x).");
        speaks(7, 3, 100, 210 ^ 93);
        Answers.term(3, "PHONE: 20 sends: super.sends(x) * 3.");
        speaks(17, 0, 100, 315);
        Answers.term(3, "CARD: 30 holds: super.holds(x) - shuts(1).");
        speaks(27, 1, 100, 210 - (1 - 7));
        Answers.term(3, "LIST: 40 shuts: -super.shuts(x).");
        speaks(37, 2, 100, -93);
        Answers.term(3, "SHARED: 50 tells: super.tells(x) - sends(2).");
        speaks(47, 3, 100, (630 ^ 93) - 21);
        Answers.term(3, "GRID: 60 holds: super.holds(x + 1).");
        speaks(57, 1, 100, 212 + 6);
        Answers.term(3, "SPARE: 70 shuts: super.shuts(x) ^ n.");
        speaks(67, 2, 100, -93 ^ 5);
        Answers.term(3, "71 tells: holds(x) - super.tells(x).");
        speaks(67, 3, 100, 210 - (210 ^ (-93 ^ 5)));
    }

    private static void bodiesAreChosen() {
        Answers.term(3, "sends(..) is the BODY of its KIND, or of the next KIND above that has one; "
            + "super.sends(..) that from the KIND above the BODY's on.");
        int[] sends = {105, 315, 105, 105, 315, 105, 105};
        int[] holds = {210, 630, 216, 210, 630, 218, 210};
        int[] shuts = {93, 93, 93, -93, 93, 93, -93 ^ 5};
        int[] tells = {210 ^ 93, 630 ^ 93, 216 ^ 93, 210 ^ -93, (630 ^ 93) - 21, 218 ^ 93, 210 - (210 ^ (-93 ^ 5))};
        for (int kind = 0; kind <= 6; kind++) {
            speaks(10 * kind + 7, 0, 100, sends[kind]);
            speaks(10 * kind + 7, 1, 100, holds[kind]);
            speaks(10 * kind + 7, 2, 100, shuts[kind]);
            speaks(10 * kind + 7, 3, 100, tells[kind]);
        }
    }

    private static void theTrace() {
        Answers.term(3, "THE TRACE: the numbers of BODIES of the latest voice(), as they began "
            + "(what stands left is worked out first), the first 40.");
        int[][][] due = {
            {{10}, {11, 10}, {12}, {13, 11, 10, 12}},
            {{20, 10}, {11, 20, 10}, {12}, {13, 11, 20, 10, 12}},
            {{10}, {30, 11, 10, 12}, {12}, {13, 30, 11, 10, 12, 12}},
            {{10}, {11, 10}, {40, 12}, {13, 11, 10, 40, 12}},
            {{20, 10}, {11, 20, 10}, {12}, {50, 13, 11, 20, 10, 12, 20, 10}},
            {{10}, {60, 30, 11, 10, 12}, {12}, {13, 60, 30, 11, 10, 12, 12}},
            {{10}, {11, 10}, {70, 40, 12}, {71, 11, 10, 13, 11, 10, 70, 40, 12}}};
        SixFigures x = new SixFigures();
        x.way(0, 0, 0);
        for (int kind = 0; kind <= 6; kind++) {
            x.become(0, 10 * kind);
            for (int act = 0; act <= 3; act++) {
                x.voice(0, act, 1);
                due("how many", x.count(13), due[kind][act].length);
                for (int i = 0; i < due[kind][act].length; i++) {
                    due("KIND " + kind + ", act " + act + ", " + i, x.trace(i), due[kind][act][i]);
                }
                due("behind it", x.trace(due[kind][act].length), NONE);
            }
        }
    }

    private static void sheets() {
        Answers.term(4, "SHEETS 0 .. 3 are rows of 8, 16, 32 bits, at most 40 numbers, or missing (as at first).");
        SixFigures x = new SixFigures();
        for (int sheet = 0; sheet <= 3; sheet++) {
            due("missing at first", x.put(sheet, 0, 0), NONE);
            due("41 numbers", x.sheet(sheet, 8, 41), BEYOND);
            due("still missing", x.put(sheet, 0, 0), NONE);
            for (int bits : new int[] {8, 16, 32}) {
                due("40 numbers", x.sheet(sheet, bits, 40), 1);
                due("the last", x.put(sheet, 39, 1), 1);
                due("behind it", x.put(sheet, 40, 1), BEYOND);
                due("no numbers", x.sheet(sheet, bits, 0), 1);
                due("none", x.put(sheet, 0, 1), BEYOND);
            }
        }
        due("below", x.sheet(-1, 8, 1), BEYOND);
        due("above", x.sheet(4, 8, 1), BEYOND);
    }

    private static void promise29() {
        Answers.sentence(29, "A VOICE of a WAY: any number.");
        SixFigures x = new SixFigures();
        due("no WAYS", x.voice(0, 0, 0), BEYOND);
        x.way(0, 0, 0);
        for (int v : new int[] {MIN, MAX, -1, 0, BEYOND, NONE, STATE, FULL, KIND}) {
            due("the least act", x.voice(0, 0, v), v);
            due("the greatest act", x.voice(0, 3, v), v * 2 ^ v);
        }
        due("no ERROR", x.told(1), 1);
        due("no ERROR", x.told(2), 0);
        Answers.sentence(29, "BEYOND.");
        due("act below", x.voice(0, -1, 0), BEYOND);
        due("act above", x.voice(0, 4, 0), BEYOND);
        due("act far below", x.voice(0, MIN, 0), BEYOND);
        due("act far above", x.voice(0, MAX, 0), BEYOND);
        due("WAY below", x.voice(-1, 0, 0), BEYOND);
        due("WAY above", x.voice(1, 0, 0), BEYOND);
        due("WAY far below", x.voice(MIN, 0, 0), BEYOND);
        due("WAY far above", x.voice(MAX, 0, 0), BEYOND);
        due("THE TRACE stays", x.count(13), 4);
        x.change(0, 2, 1);
        due("LOST or not", x.voice(0, 0, 6), 6);
    }

    private static void promise30() {
        Answers.sentence(30, "THE TRACE's i-th.");
        SixFigures x = new SixFigures();
        x.way(60, 0, 0);
        due("none yet", x.trace(0), NONE);
        x.voice(0, 3, 1);
        due("the first", x.trace(0), 71);
        due("the last", x.trace(8), 12);
        Answers.sentence(30, "NONE: there is none such.");
        due("behind it", x.trace(9), NONE);
        due("ahead of it", x.trace(-1), NONE);
        due("the fortieth", x.trace(39), NONE);
        due("behind the fortieth", x.trace(40), NONE);
        due("far below", x.trace(MIN), NONE);
        due("far above", x.trace(MAX), NONE);
        x.voice(0, 0, 1);
        due("a shorter one", x.trace(0), 10);
        due("behind the shorter one", x.trace(1), NONE);
        due("told", x.told(2), 8);
    }

    private static void promise31() {
        Answers.sentence(31, "A SHEET has n numbers, all 0, of so many bits (8, 16, 32; 0: it is missing, "
            + "n doesn't matter): 1.");
        SixFigures x = new SixFigures();
        x.way(0, 50, 0);
        x.way(0, 50, 0);
        for (int bits : new int[] {8, 16, 32}) {
            due("2 numbers", x.sheet(0, bits, 2), 1);
            due("all 0", x.judge(0), -1);
            x.put(0, 0, 7);
            x.put(0, 1, 7);
            due("no longer", x.judge(0), 0);
            due("1 number", x.sheet(0, bits, 1), 1);
            due("the second lacks", x.judge(0), 1);
            due("3 numbers", x.sheet(0, bits, 3), 1);
            due("all 0, the third is too many", x.judge(0), 2);
            x.put(0, 0, 7);
            x.put(0, 1, 7);
            x.put(0, 2, 7);
        }
        for (int n : new int[] {0, -1, 41, MIN, MAX}) {
            x.sheet(0, 8, 2);
            due("n " + n + " doesn't matter", x.sheet(0, 0, n), 1);
            due("it is missing", x.judge(0), NONE);
            due("missing again", x.sheet(0, 0, n), 1);
        }
        Answers.sentence(31, "BEYOND.");
        due("SHEET below", x.sheet(-1, 8, 1), BEYOND);
        due("SHEET above", x.sheet(4, 8, 1), BEYOND);
        due("SHEET far below", x.sheet(MIN, 8, 1), BEYOND);
        due("SHEET far above", x.sheet(MAX, 8, 1), BEYOND);
        due("SHEET, missing", x.sheet(4, 0, 1), BEYOND);
        for (int bits : new int[] {-8, -1, 1, 7, 9, 15, 17, 24, 31, 33, 64, MIN, MAX}) {
            due("bits " + bits, x.sheet(0, bits, 1), BEYOND);
        }
        due("n above", x.sheet(0, 8, 41), BEYOND);
        due("n far above", x.sheet(0, 32, MAX), BEYOND);
        due("it is still missing", x.judge(0), NONE);
        Answers.sentence(31, "STATE: n is below 0 (ahead of BEYOND of n).");
        due("n below", x.sheet(0, 8, -1), STATE);
        due("n below", x.sheet(0, 16, -1), STATE);
        due("n far below", x.sheet(0, 32, MIN), STATE);
        due("n below, yet BEYOND of the SHEET is asked first", x.sheet(4, 8, -1), BEYOND);
        due("n below, yet BEYOND of the bits is asked first", x.sheet(0, 7, -1), BEYOND);
        due("n is 0", x.sheet(0, 8, 0), 1);
    }

    private static void promise32() {
        Answers.sentence(32, "Number i of a SHEET becomes v (its lowest bits): 1.");
        SixFigures x = new SixFigures();
        x.way(0, 0, 5);
        x.sheet(0, 8, 1);
        x.sheet(1, 16, 1);
        x.sheet(2, 32, 1);
        int[] values = {5, 5 + 256, 5 - 256, 5 + 65536, 5 - 65536, 5 + 32768, 5 + 128, 4, 6, -5};
        int[][] same = {{1, 1, 1, 1, 1, 1, 0, 0, 0, 0}, {1, 0, 0, 1, 1, 0, 0, 0, 0, 0}, {1, 0, 0, 0, 0, 0, 0, 0, 0, 0}};
        for (int i = 0; i < values.length; i++) {
            for (int sheet = 0; sheet < 3; sheet++) {
                due("put", x.put(sheet, 0, values[i]), 1);
                due(values[i] + " in SHEET " + sheet, x.judge(sheet), same[sheet][i] == 1 ? -1 : 0);
            }
        }
        Answers.sentence(32, "BEYOND: no such SHEET.");
        due("below", x.put(-1, 0, 0), BEYOND);
        due("above", x.put(4, 0, 0), BEYOND);
        due("far below", x.put(MIN, 0, 0), BEYOND);
        due("far above", x.put(MAX, 0, 0), BEYOND);
        Answers.sentence(32, "NONE: it is missing.");
        due("missing", x.put(3, 0, 0), NONE);
        due("missing is asked ahead of the number", x.put(3, -1, 0), NONE);
        Answers.sentence(32, "BEYOND: no such number.");
        x.sheet(3, 8, 40);
        due("the first", x.put(3, 0, 0), 1);
        due("the last", x.put(3, 39, 0), 1);
        due("below", x.put(3, -1, 0), BEYOND);
        due("above", x.put(3, 40, 0), BEYOND);
        due("far below", x.put(3, MIN, 0), BEYOND);
        due("far above", x.put(3, MAX, 0), BEYOND);
        x.sheet(3, 8, 0);
        due("no numbers", x.put(3, 0, 0), BEYOND);
    }

    private static void promise33Errors() {
        SixFigures x = new SixFigures();
        x.sheet(0, 8, 3);
        x.sheet(1, 8, 5);
        x.sheet(2, 16, 5);
        Answers.sentence(33, "BEYOND: no such SHEET.");
        for (int sheet : new int[] {-1, 4, MIN, MAX}) {
            due("from " + sheet, x.move(sheet, 0, 0, 0, 0), BEYOND);
            due("to " + sheet, x.move(0, 0, sheet, 0, 0), BEYOND);
            due("ahead of a missing one", x.move(3, 0, sheet, 0, 0), BEYOND);
            due("ahead of a missing one", x.move(sheet, 0, 3, 0, 0), BEYOND);
        }
        Answers.sentence(33, "NONE: one is missing.");
        due("the one", x.move(3, 0, 0, 0, 0), NONE);
        due("the other", x.move(0, 0, 3, 0, 0), NONE);
        due("both", x.move(3, 0, 3, 0, 0), NONE);
        due("ahead of n", x.move(0, 0, 3, 0, -1), NONE);
        Answers.sentence(33, "KIND: they are of unlike bits.");
        due("8 and 16", x.move(0, 0, 2, 0, 0), KIND);
        due("16 and 8", x.move(2, 0, 1, 0, 1), KIND);
        x.sheet(3, 32, 5);
        due("16 and 32", x.move(2, 0, 3, 0, 1), KIND);
        due("32 and 8", x.move(3, 0, 0, 0, 1), KIND);
        due("ahead of n", x.move(0, 0, 2, 0, -1), KIND);
        due("ahead of i", x.move(0, 9, 2, 0, 1), KIND);
        due("alike", x.move(0, 0, 1, 0, 1), 1);
        Answers.sentence(33, "BEYOND: n, i, or j is below 0, or they don't stand there.");
        int[][] beyond = {{0, 0, -1}, {-1, 0, 1}, {0, -1, 1}, {-1, 0, 0}, {0, -1, 0}, {0, 0, 4}, {1, 0, 3}, {3, 0, 1},
            {4, 0, 0}, {0, 3, 3}, {0, 5, 1}, {0, 6, 0}, {MAX, 0, 1}, {0, MAX, 1}, {1, 1, MAX}, {MAX, MAX, MAX},
            {MIN, 0, 1}, {0, MIN, 1}, {0, 0, MIN}, {-1, 1, 2}};
        for (int[] one : beyond) {
            due("from " + one[0] + " to " + one[1] + ", " + one[2], x.move(0, one[0], 1, one[1], one[2]), BEYOND);
        }
        int[][] within = {{0, 0, 3}, {0, 2, 3}, {1, 3, 2}, {2, 4, 1}, {3, 5, 0}, {0, 0, 0}, {3, 0, 0}, {0, 5, 0}};
        for (int[] one : within) {
            due("from " + one[0] + " to " + one[1] + ", " + one[2], x.move(0, one[0], 1, one[1], one[2]), one[2]);
        }
        due("told", x.told(1), 16 + beyond.length);
    }

    /** The numbers of a SHEET of 6, as FAR of six WAYS. */
    private static void holds(String what, SixFigures x, int sheet, int... want) {
        due(what + ", how many", x.fars(sheet), 6);
        for (int i = 0; i < 6; i++) {
            due(what + ", number " + i, x.ofWay(i, 2), want[i]);
        }
    }

    private static SixFigures withSheets() {
        SixFigures x = new SixFigures();
        x.sheet(0, 8, 6);
        x.sheet(1, 8, 6);
        for (int i = 0; i < 6; i++) {
            x.way(0, 0, 0);
            x.put(0, i, i + 1);
            x.put(1, i, 10 * i);
        }
        return x;
    }

    private static void promise33Moves() {
        Answers.sentence(33, "n numbers of a SHEET, from number i on, come to another one (or the same), "
            + "from its number j on, as they all were: n.");
        SixFigures x = withSheets();
        due("all", x.move(0, 0, 1, 0, 6), 6);
        holds("all", x, 1, 1, 2, 3, 4, 5, 6);
        holds("the source", x, 0, 1, 2, 3, 4, 5, 6);
        x = withSheets();
        due("some", x.move(0, 4, 1, 1, 2), 2);
        holds("some", x, 1, 0, 5, 6, 30, 40, 50);
        holds("the source", x, 0, 1, 2, 3, 4, 5, 6);
        due("none", x.move(0, 2, 1, 3, 0), 0);
        holds("none", x, 1, 0, 5, 6, 30, 40, 50);
        due("the same, up by one", x.move(0, 0, 0, 1, 5), 5);
        holds("as they all were", x, 0, 1, 1, 2, 3, 4, 5);
        due("the same, down by one", x.move(0, 1, 0, 0, 5), 5);
        holds("as they all were", x, 0, 1, 2, 3, 4, 5, 5);
        due("the same, up by two", x.move(0, 0, 0, 2, 4), 4);
        holds("as they all were", x, 0, 1, 2, 1, 2, 3, 4);
        due("the same, where they stand", x.move(0, 0, 0, 0, 6), 6);
        holds("as they all were", x, 0, 1, 2, 1, 2, 3, 4);
        x.sheet(2, 32, 6);
        x.sheet(3, 32, 6);
        x.put(2, 5, 99);
        due("of 32 bits", x.move(2, 5, 3, 0, 1), 1);
        holds("of 32 bits", x, 3, 99, 0, 0, 0, 0, 0);
    }

    private static void promise34() {
        Answers.sentence(34, "Numbers of a SHEET become FAR of WAYS 0, 1, ..: how many, up to the first that is not "
            + "0 to 99 (no ERROR then), or for which there is no WAY.");
        SixFigures x = new SixFigures();
        x.sheet(0, 32, 3);
        due("no WAYS", x.fars(0), 0);
        x.way(0, 50, 0);
        x.way(0, 51, 0);
        int[][] rows = {{0, 99, 0}, {100, 1, 0}, {-1, 1, 0}, {3, 100, 0}, {4, -1, 0}, {5, MAX, 0}, {6, MIN, 0}, {7, 8, 100}};
        int[] many = {2, 0, 0, 1, 1, 1, 1, 2};
        int[][] fars = {{0, 99}, {0, 99}, {0, 99}, {3, 99}, {4, 99}, {5, 99}, {6, 99}, {7, 8}};
        for (int i = 0; i < rows.length; i++) {
            for (int j = 0; j < 3; j++) {
                x.put(0, j, rows[i][j]);
            }
            due("how many, row " + i, x.fars(0), many[i]);
            due("FAR of WAY 0", x.ofWay(0, 2), fars[i][0]);
            due("FAR of WAY 1", x.ofWay(1, 2), fars[i][1]);
        }
        x.sheet(1, 8, 1);
        due("fewer than WAYS", x.fars(1), 1);
        due("FAR of WAY 0", x.ofWay(0, 2), 0);
        due("FAR of WAY 1 stays", x.ofWay(1, 2), 8);
        x.sheet(1, 8, 0);
        due("no numbers", x.fars(1), 0);
        due("no ERROR", x.told(1), 0);
        x.change(1, 2, 1);
        x.put(0, 1, 44);
        due("LOST or not", x.fars(0), 2);
        due("LOST or not", x.ofWay(1, 2), 44);
        Answers.sentence(34, "BEYOND: no such SHEET.");
        for (int sheet : new int[] {-1, 4, MIN, MAX}) {
            due("SHEET " + sheet, x.fars(sheet), BEYOND);
        }
        Answers.sentence(34, "NONE: it is missing.");
        due("missing", x.fars(3), NONE);
        due("missing, no WAYS", new SixFigures().fars(0), NONE);
    }

    private static void promise35() {
        Answers.sentence(35, "Numbers of a SHEET are PLACES of WAYS 0, 1, ..: the first that isn't so "
            + "(one that lacks, or is too many, too); -1: all are.");
        SixFigures x = new SixFigures();
        x.sheet(0, 8, 0);
        x.sheet(1, 8, 1);
        due("none and none", x.judge(0), -1);
        due("one is too many", x.judge(1), 0);
        x.way(0, 0, 5);
        due("one lacks", x.judge(0), 0);
        due("the first isn't so", x.judge(1), 0);
        x.put(1, 0, 5);
        due("all are", x.judge(1), -1);
        x.way(0, 0, 0);
        due("the second lacks, though it would be 0", x.judge(1), 1);
        x.sheet(2, 32, 3);
        due("the first isn't so", x.judge(2), 0);
        x.put(2, 0, 5);
        due("the third is too many, though it is 0", x.judge(2), 2);
        x.put(2, 1, 1);
        due("the second isn't so", x.judge(2), 1);
        x.change(1, 1, 1);
        x.change(1, 2, 1);
        due("LOST or not", x.judge(2), 2);
        x.sheet(3, 32, 40);
        due("40 numbers", x.judge(3), 0);
        due("PLACES stay", x.ofWay(0, 3), 5);
        SixFigures y = new SixFigures();
        y.sheet(0, 16, 6);
        for (int i = 0; i < 6; i++) {
            y.way(0, 0, i);
            y.put(0, i, i);
        }
        due("six", y.judge(0), -1);
        y.put(0, 5, 4);
        due("the last isn't so", y.judge(0), 5);
        Answers.sentence(35, "BEYOND: no such SHEET.");
        for (int sheet : new int[] {-1, 4, MIN, MAX}) {
            due("SHEET " + sheet, y.judge(sheet), BEYOND);
        }
        Answers.sentence(35, "NONE: it is missing.");
        due("missing", y.judge(1), NONE);
        due("missing, no WAYS", new SixFigures().judge(3), NONE);
    }

    private static void promise36() {
        Answers.sentence(36, "All (but SHEETS, THE TRACE, what told() tells, and how often this was done) is kept as an "
            + "IMAGE, in place of one ahead: how often that was done.");
        SixFigures x = new SixFigures();
        for (int i = 1; i <= 40; i++) {
            due("how often", x.image(), i);
            x.pass(1);
        }
        due("in place of one ahead", x.restore(), 39);
        due("how often isn't in it", x.image(), 41);
        due("the same", x.restore(), 39);
        x.way(33, 0, 0);
        x.voice(0, 0, 0);
        x.sheet(0, 8, 2);
        x.image();
        x.voice(0, 3, 0);
        x.sheet(0, 8, 3);
        x.sheet(1, 16, 1);
        x.fars(3);
        x.restore();
        due("THE TRACE stays", x.count(13), 5);
        due("SHEETS stay", x.judge(0), 1);
        due("SHEETS stay", x.judge(1), -1);
        x.put(0, 0, 4);
        x.restore();
        due("SHEETS stay", x.judge(0), 0);
        due("what told() tells stays", x.told(2), 1);
        SixFigures one = new SixFigures();
        SixFigures other = new SixFigures();
        Acts.fill(one);
        Acts.fill(other);
        due("how often", one.image(), 2);
        Twins.alike("keeping an IMAGE changes nothing", one, other);
    }

    private static void promise37() {
        Answers.sentence(37, "All is as the IMAGE has it, which stays: SECOND.");
        SixFigures x = new SixFigures();
        x.image();
        due("no WAYS, CODES in it", x.restore(), 0);
        x.way(20, 0, 0);
        x.ask(0);
        Answers.text(x, 0, "77");
        Answers.text(x, 1, "0");
        x.feed(0, 8);
        x.tell(5);
        x.rule(2, 1);
        x.seed(9);
        x.enter(3);
        due("SECOND", x.restore(), 0);
        Answers.dueAll("all as at first", Acts.counts(x), 0, 0, 0, 0, 0, 0, 6, 30, 3, 3600, 0, 0, 0, 0, 1);
        due("no TEXT of LATE", x.law(0, 4, 0, 0), 7);
        due("no TEXT of SLIPS", x.law(1, 61, 0, 0), 1);
        due("no WAY", x.ofWay(0, 0), BEYOND);
        due("no CODE", x.ofCode(0, 0), BEYOND);
        due("nothing waits", x.check(), 0);
        Acts.passTo(x, Acts.LAST_SECOND);
        due("it stays", x.restore(), 0);
        due("it stays", x.restore(), 0);
        Acts.passTo(x, Acts.LAST_SECOND);
        x.image();
        due("the last SECOND", x.restore(), 999999);
        due("the last SECOND", x.pass(1), STATE);
        Answers.sentence(37, "NONE: there is none.");
        SixFigures y = new SixFigures();
        y.pass(5);
        due("none", y.restore(), NONE);
        due("SECOND stays", y.count(2), 5);
        y.image();
        due("there is one", y.restore(), 5);
        due("told", y.told(2), 1);
    }

    /** A full object, spoiled and restored, twice, shows what its twin does that was left alone. */
    private static void promise37All() {
        Answers.sentence(37, "All is as the IMAGE has it, which stays: SECOND.");
        SixFigures one = new SixFigures();
        SixFigures other = new SixFigures();
        for (SixFigures x : new SixFigures[] {one, other}) {
            Acts.fill(x);
            x.image();
        }
        for (int time = 0; time < 2; time++) {
            spoil(one);
            due("SECOND", one.restore(), other.count(2));
        }
        Twins.alike("restored", one, other);
    }

    private static void spoil(SixFigures x) {
        for (int way = 0; way < 6; way++) {
            x.become(way, 21 + way);
            x.change(way, 0, 80 + way);
            x.change(way, 1, 4);
            x.change(way, 2, way % 2 == 0 ? 1 : 0);
        }
        x.text(0);
        x.feed('8', 1);
        x.text(0);
        x.feed('1', 1);
        x.text(1);
        int[] rules = {3, 33, 1, 33, 0};
        for (int what = 0; what < 5; what++) {
            x.rule(what, rules[what]);
        }
        x.pass(999);
        for (int i = 0; i < 10; i++) {
            x.ask(1);
        }
        x.enter(x.ofCode(9, 1));
        x.enter(999);
        x.feed(-1L, 8);
        x.check();
        x.tell(1);
    }

    private static void promise38() {
        Answers.sentence(38, "One more number waits: how many.");
        SixFigures x = new SixFigures();
        due("none at first", x.count(12), 0);
        for (int i = 1; i <= 19; i++) {
            due("how many", x.tell(i % 2 == 0 ? MIN : MAX), i);
        }
        due("the twentieth", x.tell(BEYOND), 20);
        Answers.sentence(38, "FULL: 20 wait.");
        due("one more", x.tell(0), FULL);
        due("20 wait", x.count(12), 20);
        x.check();
        due("none waits then", x.tell(0), 1);
    }

    /** Tells numbers and checks them. */
    private static int checked(SixFigures x, int... numbers) {
        for (int v : numbers) {
            x.tell(v);
        }
        return x.check();
    }

    private static void promise39() {
        Answers.sentence(39, "The numbers that wait (none do then) are LATE of WAY 0 at 1, 2, .. SECONDS from now "
            + "(without WAYS none is so): 0; else 1 and the place (from 0) of the first that isn't so.");
        SixFigures x = new SixFigures();
        due("without WAYS, none waits", x.check(), 0);
        due("without WAYS", checked(x, 3, 3), 1);
        due("none waits then", x.count(12), 0);
        x.way(0, 0, 0);
        x.way(20, 0, 0);
        due("none waits", x.check(), 0);
        Answers.text(x, 0, "s");
        due("from 1 on", checked(x, 1, 2, 3), 0);
        due("none waits then", x.count(12), 0);
        due("not from 0 on", checked(x, 0, 1, 2), 1);
        due("the second", checked(x, 1, 1, 3), 2);
        due("the last", checked(x, 1, 2, 4), 3);
        due("the first of two", checked(x, 1, 0, 0), 2);
        x.pass(57);
        due("round by 60", checked(x, 58, 59, 0, 1), 0);
        due("not round by 60", checked(x, 58, 59, 60, 61), 3);
        x.change(0, 2, 1);
        due("LOST or not", checked(x, 58, 59), 0);
        int[] twenty = new int[20];
        for (int i = 0; i < 20; i++) {
            twenty[i] = (58 + i) % 60;
        }
        due("twenty", checked(x, twenty), 0);
        twenty[19]++;
        due("the twentieth", checked(x, twenty), 20);
        x.become(0, 20);
        due("of its KIND", checked(x, 0, 0), 0);
        due("SECOND stays", x.count(2), 57);
        due("no ERROR", x.told(1), 0);
    }

    private static void promise40() {
        Answers.sentence(40, "0 WAYS, 1 CODES, 2 SECOND, 3 WRONG, 4 SHUT TILL, 5 IN, 6 FIGURES, 7 HOLD, 8 TRIES, "
            + "9 SHUT FOR, 10 NEWEST, 11 bytes of THE TAPE, 12 numbers that wait, 13 BODIES in THE TRACE, "
            + "14 z (any number).");
        SixFigures x = Acts.withWay(20, 0, 0);
        x.way(0, 0, 0);
        x.rule(0, 5);
        x.rule(1, 40);
        x.rule(2, 2);
        x.rule(3, 500);
        x.enter(0);
        x.enter(0);
        x.pass(500);
        for (int i = 1; i <= 3; i++) {
            Acts.ask(x, 0, i);
            x.enter(i);
        }
        x.enter(0);
        x.rule(4, 1);
        x.feed(0, 7);
        x.tell(0);
        x.tell(0);
        x.voice(0, 1, 0);
        x.seed(BEYOND);
        Answers.dueAll("count", Acts.counts(x), 2, 3, 512, 1, 504, 3, 5, 40, 2, 500, 1, 7, 2, 4, BEYOND);
        due("no ERROR", x.told(1), 0);
        Answers.sentence(40, "BEYOND.");
        due("below", x.count(-1), BEYOND);
        due("above", x.count(15), BEYOND);
        due("far below", x.count(MIN), BEYOND);
        due("far above", x.count(MAX), BEYOND);
        due("told", x.told(1), 4);
    }

    private static void promise41() {
        Answers.sentence(41, "How many acts have answered an ERROR LOW - k (k 1 .. 5);");
        SixFigures x = Acts.withWay(0, 0, 0);
        for (int i = 0; i < 25; i++) {
            x.tell(0);
        }
        x.rule(9, 9);
        x.restore();
        x.trace(0);
        for (int i = 0; i < 3; i++) {
            x.sheet(0, 8, -1);
            x.as(0, 4);
        }
        Answers.dueAll("told", new int[] {x.told(1), x.told(2), x.told(3), x.told(4), x.told(5)}, 1, 2, 3, 5, 3);
        due("asking isn't counted", x.told(4), 5);
        Answers.sentence(41, "BEYOND: another k (counted, too).");
        due("below", x.told(0), BEYOND);
        due("counted", x.told(1), 2);
        due("above", x.told(6), BEYOND);
        due("counted", x.told(1), 3);
        due("far below", x.told(MIN), BEYOND);
        due("far above", x.told(MAX), BEYOND);
        due("further below", x.told(-1), BEYOND);
        due("counted", x.told(1), 6);
        due("no other is", x.told(5), 3);
    }
}
