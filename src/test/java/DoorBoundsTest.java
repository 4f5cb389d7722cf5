/** The door and the ways: each sentence of Terms 1 about them, and of promises 1 to 7, at its bounds. */
public final class DoorBoundsTest {
    private static final int BEYOND = Answers.BEYOND;
    private static final int NONE = Answers.NONE;
    private static final int STATE = Answers.STATE;
    private static final int FULL = Answers.FULL;
    private static final int KIND = Answers.KIND;
    private static final int MAX = Acts.MAX;
    private static final int MIN = Acts.MIN;

    private DoorBoundsTest() {
    }

    public static void main(String[] args) {
        errors();
        quotients();
        rulesOfTheDoor();
        second();
        wrong();
        shutTill();
        in();
        ways();
        kinds();
        ofAWay();
        late();
        lasts();
        promise1();
        promise2();
        promise3();
        promise4();
        promise5();
        promise6();
        promise7();
        Answers.finish();
    }

    private static void due(String call, long got, long want) {
        Answers.due(call, got, want);
    }

    private static void errors() {
        Answers.term(0, "ERRORS are answers below -1000000000: LOW is -1000000000; LOW - 1 BEYOND, LOW - 2 NONE, "
            + "LOW - 3 STATE, LOW - 4 FULL, LOW - 5 KIND.");
        SixFigures x = Acts.withWay(0, 0, 0);
        due("BEYOND", x.rule(0, 0), -1000000001);
        due("NONE", x.restore(), -1000000002);
        due("STATE", x.sheet(0, 8, -1), -1000000003);
        for (int i = 0; i < 20; i++) {
            x.tell(0);
        }
        due("FULL", x.tell(0), -1000000004);
        due("KIND", x.as(0, 1), -1000000005);
        due("any number, no ERROR", x.voice(0, 0, -1000000001), -1000000001);
        due("any number, no ERROR", x.voice(0, 0, -1000000002), -1000000002);
        for (int k = 1; k <= 5; k++) {
            due("told " + k, x.told(k), 1);
        }
    }

    private static void quotients() {
        Answers.term(0, "Quotients are cut (toward 0).");
        SixFigures x = new SixFigures();
        Answers.text(x, 0, "9+m/2");
        int[] of = {-3, -2, -1, 0, 1, 2, 3};
        int[] cut = {-1, -1, 0, 0, 0, 1, 1};
        for (int i = 0; i < of.length; i++) {
            due("9 and half of " + of[i], x.law(0, of[i], 0, 0), 9 + cut[i]);
        }
    }

    /** One rule of THE DOOR: what it is at first, its least and its greatest, and what is beyond them. */
    private static void rule(int what, int least, int most, int first) {
        SixFigures x = new SixFigures();
        int[] due = Acts.counts(x);
        due("at first", due[6 + what], first);
        due("the least", x.rule(what, least), first);
        due("below it", x.rule(what, least - 1), BEYOND);
        due("far below", x.rule(what, MIN), BEYOND);
        due("the least stays", x.count(6 + what), least);
        due("the greatest", x.rule(what, most), least);
        due("above it", x.rule(what, most + 1), BEYOND);
        due("far above", x.rule(what, MAX), BEYOND);
        due[6 + what] = most;
        Answers.dueAll("no other changes", Acts.counts(x), due);
    }

    private static void rulesOfTheDoor() {
        Answers.term(1, "THE DOOR: FIGURES (1 to 6; 6 at first)");
        rule(0, 1, 6, 6);
        Answers.term(1, "HOLD (SECONDS, 1 to 300; 30 at first)");
        rule(1, 1, 300, 30);
        Answers.term(1, "TRIES (1 to 9; 3 at first)");
        rule(2, 1, 9, 3);
        Answers.term(1, "SHUT FOR (SECONDS, 1 to 9999; 3600 at first)");
        rule(3, 1, 9999, 3600);
        Answers.term(1, "NEWEST (1: just the newest CODE counts; 0 at first)");
        rule(4, 0, 1, 0);
        SixFigures x = Acts.withWay(20, 0, 0);
        x.ask(0);
        x.ask(0);
        due("both count at first", x.counting(), 3);
        x.rule(4, 1);
        due("just the newest", x.counting(), 2);
    }

    private static void second() {
        Answers.term(1, "SECOND (0 to 999999; 0 at first)");
        SixFigures x = new SixFigures();
        due("at first", x.count(2), 0);
        due("one more", x.pass(1), 1);
        Acts.passTo(x, 999998);
        due("just below the greatest", x.count(2), 999998);
        due("the greatest", x.pass(1), 999999);
        due("beyond it", x.pass(1), STATE);
        due("beyond it by draws", x.loose(1), STATE);
        due("beyond it by entering", x.enter(0), STATE);
        due("it stays", x.count(2), 999999);
    }

    private static void wrong() {
        Answers.term(1, "WRONG (tries in a row, 0 to 9; 0 at first)");
        SixFigures x = Acts.withWay(20, 0, 0);
        due("at first", x.count(3), 0);
        x.rule(2, 9);
        for (int i = 1; i <= 8; i++) {
            x.enter(0);
            due("tries", x.count(3), i);
        }
        Acts.ask(x, 0, 77);
        due("in", x.enter(77), 1);
        due("no more in a row", x.count(3), 0);
        for (int i = 1; i <= 8; i++) {
            x.enter(0);
        }
        due("eight in a row", x.count(3), 8);
        due("not SHUT yet", x.count(4), 0);
        x.enter(0);
        due("the ninth shuts", x.count(3), 0);
        due("the ninth shuts", x.count(4), 36 + 3600);
    }

    private static void shutTill() {
        Answers.term(1, "SHUT TILL (0 to 1999999; 0 at first: SHUT, as long as SECOND is less)");
        SixFigures x = new SixFigures();
        due("at first", x.count(4), 0);
        due("not SHUT at SECOND 0", x.enter(0), 0);
        x.rule(2, 1);
        x.rule(3, 1);
        due("SHUT for 1 SECOND", x.enter(0), 0);
        due("SHUT TILL", x.count(4), 5);
        due("SECOND is less by 1", x.enter(0), STATE);
        x.pass(1);
        due("SECOND is as much", x.enter(0), 0);
        x.rule(3, 9999);
        x.pass(1);
        x.enter(0);
        due("SHUT TILL", x.count(4), 10 + 9999);
        x.pass(9998);
        due("SECOND is less by 1", x.enter(0), STATE);
        x.pass(1);
        due("SECOND is as much", x.enter(0), 0);
        Acts.passTo(x, 999997);
        due("as late as may be", x.enter(0), 0);
        due("above the last SECOND", x.count(4), 999999 + 9999);
    }

    private static void in() {
        Answers.term(1, "IN (how often somebody got in, 0 to 9999; 0 at first)");
        SixFigures x = Acts.withWay(20, 0, 0);
        due("at first", x.count(5), 0);
        x.enter(1);
        due("not by a WRONG number", x.count(5), 0);
        for (int i = 1; i <= 120; i++) {
            Acts.ask(x, 0, i);
            due("in", x.enter(i), 1);
        }
        due("how often", x.count(5), 120);
    }

    private static void ways() {
        Answers.term(1, "WAYS 0, 1, .. (at most 6)");
        SixFigures x = new SixFigures();
        due("none at first", x.count(0), 0);
        due("none at first", x.ofWay(0, 0), BEYOND);
        for (int i = 0; i < 6; i++) {
            due("its number", x.way(11 * i, 20 + i, i), i);
            due("how many", x.count(0), i + 1);
            due("the last", x.ofWay(i, 2), 20 + i);
            due("behind it", x.ofWay(i + 1, 2), BEYOND);
        }
        due("a seventh", x.way(0, 0, 0), FULL);
        due("how many", x.count(0), 6);
        for (int i = 0; i < 6; i++) {
            due("FAR", x.ofWay(i, 2), 20 + i);
        }
    }

    private static void kinds() {
        Answers.term(1, "of KINDS: 0 WAY; 1 PHONE, 2 CARD, 3 LIST under WAY; 4 SHARED under PHONE; 5 GRID under CARD; "
            + "6 SPARE under LIST");
        String[] above = {"0", "01", "02", "03", "014", "025", "036"};
        SixFigures x = new SixFigures();
        x.way(0, 0, 0);
        for (int kind = 0; kind <= 6; kind++) {
            x.become(0, 10 * kind + 7);
            for (int as = 0; as <= 6; as++) {
                int due = above[kind].indexOf((char) ('0' + as)) >= 0 ? 7 : KIND;
                due("KIND " + kind + " as " + as, x.as(0, as), due);
            }
        }
    }

    private static void ofAWay() {
        Answers.term(1, "with a number m (0 to 9), FAR (SECONDS to fetch, 0 to 99), a PLACE (0 to 5), "
            + "LOST or not (at first)");
        SixFigures x = new SixFigures();
        due("the least", x.way(0, 0, 0), 0);
        due("the greatest", x.way(69, 99, 5), 1);
        due("m 9 of KIND 0", x.way(9, 1, 1), 2);
        due("m 0 of KIND 1", x.way(10, 98, 4), 3);
        int[][] due = {{0, 0, 0, 0, 0}, {6, 9, 99, 5, 0}, {0, 9, 1, 1, 0}, {1, 0, 98, 4, 0}};
        for (int way = 0; way < due.length; way++) {
            for (int what = 0; what < 5; what++) {
                due("WAY " + way + ", " + what, x.ofWay(way, what), due[way][what]);
            }
        }
        due("km below", x.way(-1, 0, 0), BEYOND);
        due("km above", x.way(70, 0, 0), BEYOND);
        due("FAR below", x.way(0, -1, 0), BEYOND);
        due("FAR above", x.way(0, 100, 0), BEYOND);
        due("PLACE below", x.way(0, 0, -1), BEYOND);
        due("PLACE above", x.way(0, 0, 6), BEYOND);
        due("how many", x.count(0), 4);
    }

    /** LATE of a WAY of a KIND and m, by what the TEXT gives. */
    private static void lateOf(int km, int[] given, int[] late) {
        SixFigures x = new SixFigures();
        x.way(km, 50, 3);
        for (int i = 0; i < given.length; i++) {
            Answers.text(x, 0, String.valueOf(given[i]));
            due("km " + km + ", v " + given[i], x.ofWay(0, 5), late[i]);
        }
    }

    private static void late() {
        int[] given = {0, 1, 2, 3, 299, 300, 301, 9999};
        int[] held = {0, 1, 2, 3, 299, 300, 300, 300};
        int[] half = {0, 0, 1, 1, 149, 150, 150, 150};
        int[] none = new int[8];
        Answers.term(1, "LATE (SECONDS till a CODE is there; v is what the TEXT gives): WAY: v.");
        lateOf(0, given, held);
        lateOf(9, given, held);
        Answers.term(1, "CARD: 0.");
        lateOf(29, given, none);
        Answers.term(1, "LIST: half of v (cut).");
        lateOf(39, given, half);
        Answers.term(1, "SHARED: as PHONE, and m.");
        lateOf(40, given, held);
        lateOf(41, given, new int[] {1, 2, 3, 4, 300, 301, 301, 301});
        lateOf(49, given, new int[] {9, 10, 11, 12, 308, 309, 309, 309});
        Answers.term(1, "GRID: as CARD, and 1.");
        lateOf(59, given, new int[] {1, 1, 1, 1, 1, 1, 1, 1});
        Answers.term(1, "SPARE: 0.");
        lateOf(69, given, none);
        Answers.term(1, "(Others as the KIND above.)");
        lateOf(19, given, held);
    }

    private static void lastsOf(int km, int... due) {
        int[] holds = {1, 2, 3, 30, 299, 300};
        SixFigures x = new SixFigures();
        x.way(km, 50, 3);
        for (int i = 0; i < holds.length; i++) {
            x.rule(1, holds[i]);
            due("km " + km + ", HOLD " + holds[i], x.ofWay(0, 6), due[i]);
        }
    }

    private static void lasts() {
        Answers.term(1, "LASTS (SECONDS that a CODE of it HOLDS, from when it was sent): WAY: HOLD.");
        lastsOf(9, 1, 2, 3, 30, 299, 300);
        Answers.term(1, "LIST: 10 times HOLD.");
        lastsOf(39, 10, 20, 30, 300, 2990, 3000);
        Answers.term(1, "SHARED: half (cut) of PHONE's.");
        lastsOf(49, 0, 1, 1, 15, 149, 150);
        Answers.term(1, "SPARE: 9999.");
        lastsOf(69, 9999, 9999, 9999, 9999, 9999, 9999);
        Answers.term(1, "(Others as the KIND above.)");
        lastsOf(19, 1, 2, 3, 30, 299, 300);
        lastsOf(29, 1, 2, 3, 30, 299, 300);
        lastsOf(59, 1, 2, 3, 30, 299, 300);
        Answers.term(1, "LASTS (SECONDS that a CODE of it HOLDS, from when it was sent): WAY: HOLD.");
        SixFigures x = Acts.withWay(0, 0, 20);
        x.pass(100);
        x.ask(0);
        due("from when it was sent, not from when it comes", x.ofCode(0, 4), 130);
    }

    private static void promise1() {
        Answers.sentence(1, "All as at first; no WAYS, CODES.");
        SixFigures x = new SixFigures();
        Answers.dueAll("count", Acts.counts(x), 0, 0, 0, 0, 0, 0, 6, 30, 3, 3600, 0, 0, 0, 0, 1);
        for (int k = 1; k <= 5; k++) {
            due("told " + k, x.told(k), 0);
        }
        due("no TEXT of LATE", x.law(0, 8, 0, 0), 11);
        due("no TEXT of SLIPS", x.law(1, 60, 0, 0), 0);
        due("no TEXT of SLIPS", x.law(1, 61, 0, 0), 1);
        due("none COUNT", x.counting(), 0);
        due("none crossed", x.crossed(), 0);
        due("none together", x.together(), 0);
        due("no IMAGE", x.restore(), NONE);
        due("no TRACE", x.trace(0), NONE);
        due("no WAY", x.ofWay(0, 0), BEYOND);
        due("no CODE", x.ofCode(0, 0), BEYOND);
        for (int sheet = 0; sheet < 4; sheet++) {
            due("missing " + sheet, x.judge(sheet), NONE);
        }
        due("none waits", x.check(), 0);
        due("none was made", x.image(), 1);
        SixFigures y = new SixFigures();
        due("another object is new, too", y.image(), 1);
        due("another object is new, too", y.told(2), 0);
    }

    private static void promise2() {
        Answers.sentence(2, "FIGURES (what 0), HOLD (1), TRIES (2), SHUT FOR (3), NEWEST (4) becomes v: what it was.");
        SixFigures x = new SixFigures();
        int[] first = {6, 30, 3, 3600, 0};
        int[] then = {5, 31, 4, 3601, 1};
        for (int what = 0; what < 5; what++) {
            due("what it was at first", x.rule(what, then[what]), first[what]);
            due("what it was", x.rule(what, then[what]), then[what]);
            due("what it is", x.count(6 + what), then[what]);
        }
        Answers.sentence(2, "BEYOND.");
        due("what below", x.rule(-1, 1), BEYOND);
        due("what above", x.rule(5, 1), BEYOND);
        due("what far below", x.rule(MIN, 1), BEYOND);
        due("what far above", x.rule(MAX, 1), BEYOND);
        due("v below", x.rule(4, -1), BEYOND);
        due("v above", x.rule(4, 2), BEYOND);
        due("each is told", x.told(1), 6);
    }

    private static void promise3() {
        Answers.sentence(3, "A WAY (km: 10 times the KIND, and m), so FAR, at a PLACE: its number.");
        SixFigures x = new SixFigures();
        int[] kms = {9, 10, 38, 40, 59, 60};
        for (int i = 0; i < 6; i++) {
            due("its number", x.way(kms[i], 99 - i, 5 - i), i);
        }
        for (int i = 0; i < 6; i++) {
            due("KIND", x.ofWay(i, 0), kms[i] / 10);
            due("m", x.ofWay(i, 1), kms[i] % 10);
            due("FAR", x.ofWay(i, 2), 99 - i);
            due("PLACE", x.ofWay(i, 3), 5 - i);
            due("not LOST", x.ofWay(i, 4), 0);
        }
        Answers.sentence(3, "FULL.");
        due("a seventh", x.way(0, 0, 0), FULL);
        due("once more", x.way(69, 99, 5), FULL);
        due("told", x.told(4), 2);
        Answers.sentence(3, "BEYOND.");
        due("km, asked ahead of FULL", x.way(70, 0, 0), BEYOND);
        due("FAR, asked ahead of FULL", x.way(0, 100, 0), BEYOND);
        due("PLACE, asked ahead of FULL", x.way(0, 0, 6), BEYOND);
        SixFigures y = new SixFigures();
        int[][] beyond = {{-1, 0, 0}, {70, 0, 0}, {MIN, 0, 0}, {MAX, 0, 0}, {0, -1, 0}, {0, 100, 0}, {0, MIN, 0},
            {0, MAX, 0}, {0, 0, -1}, {0, 0, 6}, {0, 0, MIN}, {0, 0, MAX}};
        for (int[] one : beyond) {
            due("way", y.way(one[0], one[1], one[2]), BEYOND);
            due("none is made", y.count(0), 0);
        }
    }

    private static void promise4() {
        Answers.sentence(4, "Of a WAY: 0 KIND, 1 m, 2 FAR, 3 PLACE, 4 whether LOST, 5 LATE now, 6 LASTS.");
        SixFigures x = new SixFigures();
        x.way(12, 34, 5);
        int[] due = {1, 2, 34, 5, 0, 5, 30};
        for (int what = 0; what <= 6; what++) {
            due("what " + what, x.ofWay(0, what), due[what]);
        }
        x.change(0, 2, 1);
        due("LOST", x.ofWay(0, 4), 1);
        due("LATE, though LOST", x.ofWay(0, 5), 5);
        Answers.text(x, 0, "s");
        due("LATE at SECOND 0", x.ofWay(0, 5), 0);
        x.pass(59);
        due("LATE at SECOND 59", x.ofWay(0, 5), 59);
        x.pass(1);
        due("LATE at SECOND 60", x.ofWay(0, 5), 0);
        Answers.sentence(4, "BEYOND.");
        due("what below", x.ofWay(0, -1), BEYOND);
        due("what above", x.ofWay(0, 7), BEYOND);
        due("what far below", x.ofWay(0, MIN), BEYOND);
        due("what far above", x.ofWay(0, MAX), BEYOND);
        due("WAY below", x.ofWay(-1, 0), BEYOND);
        due("WAY above", x.ofWay(1, 0), BEYOND);
        due("WAY far below", x.ofWay(MIN, 6), BEYOND);
        due("WAY far above", x.ofWay(MAX, 5), BEYOND);
    }

    private static void promise5() {
        Answers.sentence(5, "FAR (what 0), PLACE (1), LOST (2: 0, 1) of a WAY becomes v: what it was.");
        int[] most = {99, 5, 1};
        int[] first = {34, 4, 0};
        for (int what = 0; what < 3; what++) {
            SixFigures x = new SixFigures();
            x.way(12, 55, 3);
            x.way(12, 34, 4);
            due("the greatest", x.change(1, what, most[what]), first[what]);
            due("it is", x.ofWay(1, 2 + what), most[what]);
            due("above it", x.change(1, what, most[what] + 1), BEYOND);
            due("far above", x.change(1, what, MAX), BEYOND);
            due("the least", x.change(1, what, 0), most[what]);
            due("below it", x.change(1, what, -1), BEYOND);
            due("far below", x.change(1, what, MIN), BEYOND);
            for (int of = 0; of <= 4; of++) {
                int[] due = {1, 2, 34, 4, 0};
                due("of the WAY", x.ofWay(1, of), of == 2 + what ? 0 : due[of]);
                due("of the other", x.ofWay(0, of), new int[] {1, 2, 55, 3, 0}[of]);
            }
        }
        Answers.sentence(5, "BEYOND.");
        SixFigures x = new SixFigures();
        due("no WAYS", x.change(0, 0, 0), BEYOND);
        x.way(12, 34, 5);
        due("what below", x.change(0, -1, 0), BEYOND);
        due("what above", x.change(0, 3, 0), BEYOND);
        due("what far below", x.change(0, MIN, 0), BEYOND);
        due("what far above", x.change(0, MAX, 0), BEYOND);
        due("WAY below", x.change(-1, 0, 0), BEYOND);
        due("WAY above", x.change(1, 0, 0), BEYOND);
    }

    private static void promise6() {
        Answers.sentence(6, "A WAY becomes one of a KIND, with m (km): the KIND that it was.");
        SixFigures x = new SixFigures();
        x.way(34, 7, 2);
        x.way(11, 8, 3);
        x.change(0, 2, 1);
        int was = 3;
        for (int km : new int[] {0, 9, 10, 69, 60, 69, 0}) {
            due("become " + km, x.become(0, km), was);
            was = km / 10;
            due("KIND", x.ofWay(0, 0), km / 10);
            due("m", x.ofWay(0, 1), km % 10);
        }
        due("FAR stays", x.ofWay(0, 2), 7);
        due("PLACE stays", x.ofWay(0, 3), 2);
        due("LOST stays", x.ofWay(0, 4), 1);
        due("the other's KIND", x.ofWay(1, 0), 1);
        Answers.sentence(6, "BEYOND.");
        due("km below", x.become(0, -1), BEYOND);
        due("km above", x.become(0, 70), BEYOND);
        due("km far below", x.become(0, MIN), BEYOND);
        due("km far above", x.become(0, MAX), BEYOND);
        due("WAY below", x.become(-1, 0), BEYOND);
        due("WAY above", x.become(2, 0), BEYOND);
        due("the greatest WAY", x.become(1, 22), 1);
    }

    private static void promise7() {
        Answers.sentence(7, "A WAY as one of a KIND: m.");
        SixFigures x = new SixFigures();
        x.way(30, 0, 0);
        x.way(69, 0, 0);
        due("the least m", x.as(0, 3), 0);
        due("the greatest m", x.as(1, 6), 9);
        due("as the KIND above", x.as(1, 3), 9);
        due("as the KIND above all", x.as(1, 0), 9);
        due("it stays what it is", x.ofWay(1, 0), 6);
        Answers.sentence(7, "BEYOND.");
        due("KIND below", x.as(0, -1), BEYOND);
        due("KIND above", x.as(0, 7), BEYOND);
        due("KIND far below", x.as(0, MIN), BEYOND);
        due("KIND far above", x.as(0, MAX), BEYOND);
        due("WAY below", x.as(-1, 3), BEYOND);
        due("WAY above", x.as(2, 3), BEYOND);
        Answers.sentence(7, "KIND: it isn't of that KIND, nor of one under it.");
        due("a KIND under its own", x.as(0, 6), KIND);
        due("a KIND beside its own", x.as(0, 2), KIND);
        due("a KIND under one beside", x.as(1, 5), KIND);
        due("told", x.told(5), 3);
    }
}
