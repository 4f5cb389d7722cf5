/** What would be: each sentence of Terms 3 about it, and of promises 16 to 27, at its bounds. */
public final class ThoughtBoundsTest {
    private static final int BEYOND = Answers.BEYOND;
    private static final int NONE = Answers.NONE;
    private static final int STATE = Answers.STATE;
    private static final int MAX = Acts.MAX;
    private static final int MIN = Acts.MIN;

    private ThoughtBoundsTest() {
    }

    public static void main(String[] args) {
        fetchedThereAndBack();
        fetchedNoEarlier();
        fetchedCounts();
        fetchedNotShut();
        fetchedNoSlip();
        holdFor();
        fastest();
        figuresFor();
        now();
        crossed();
        atOnce();
        together();
        waits();
        byWhich();
        guess();
        odds();
        promise16();
        promise17();
        promise18();
        promise19();
        promises20And21();
        promise22();
        promises23And24();
        promise25();
        promises26And27();
        Answers.finish();
    }

    private static void due(String call, long got, long want) {
        Answers.due(call, got, want);
    }

    private static void fetchedThereAndBack() {
        Answers.term(3, "FETCHED by a WAY: whether, a CODE being asked for now, one gets in by it: one goes at once, "
            + "takes FAR there and FAR back,");
        SixFigures x = Acts.withWay(60, 0, 0);
        for (int far : new int[] {0, 1, 2, 98, 99}) {
            x.change(0, 0, far);
            due("FAR " + far, x.fetched(0, 1), 2 * far + 2);
            due("FAR " + far, x.fetched(0, 0), 1);
        }
        x.pass(77);
        due("from now, not from SECOND 0", x.fetched(0, 1), 200);
    }

    private static void fetchedNoEarlier() {
        Answers.term(3, "but is back no earlier than it COMES and FAR,");
        SixFigures x = Acts.withWay(0, 10, 9);
        due("comes ahead", x.fetched(0, 1), 22);
        Answers.text(x, 0, "10");
        due("comes just then", x.fetched(0, 1), 22);
        Answers.text(x, 0, "11");
        due("comes 1 SECOND later", x.fetched(0, 1), 23);
        x.change(0, 0, 0);
        Answers.text(x, 0, "300");
        due("as late as may be", x.fetched(0, 1), 302);
        x.become(0, 49);
        x.change(0, 0, 99);
        due("and as far", x.fetched(0, 1), 309 + 99 + 2);
        Answers.text(x, 0, "s");
        x.become(0, 0);
        x.change(0, 0, 1);
        x.pass(59);
        due("LATE is that of now", x.fetched(0, 1), 62);
        x.pass(1);
        due("LATE is that of now", x.fetched(0, 1), 4);
    }

    private static void fetchedCounts() {
        Answers.term(3, "then enters it (2 SECONDS, as in ENTERING): it COUNTS then, were it the newest,");
        SixFigures x = Acts.withWay(0, 10, 9);
        x.rule(1, 23);
        due("a SECOND to spare", x.fetched(0, 0), 1);
        x.rule(1, 22);
        due("with the last SECOND", x.fetched(0, 0), 1);
        x.rule(1, 21);
        due("a SECOND too late", x.fetched(0, 0), 0);
        due("it takes as long", x.fetched(0, 1), 22);
        x.become(0, 40);
        x.rule(1, 44);
        due("SHARED, with the last", x.fetched(0, 0), 1);
        x.rule(1, 43);
        due("SHARED, too late", x.fetched(0, 0), 0);
        x.become(0, 30);
        x.rule(1, 3);
        due("LIST, a few to spare", x.fetched(0, 0), 1);
        x.rule(1, 2);
        due("LIST, too late", x.fetched(0, 0), 0);
        x.rule(1, 30);
        x.rule(4, 1);
        for (int i = 0; i < 11; i++) {
            x.ask(0);
        }
        due("were it the newest", x.fetched(0, 0), 1);
        due("CODES stay", x.count(1), 10);
    }

    private static void fetchedNotShut() {
        Answers.term(3, "THE DOOR isn't SHUT as one begins to enter it,");
        SixFigures x = Acts.withWay(60, 10, 0);
        x.rule(2, 1);
        x.rule(3, 20);
        x.enter(0);
        due("SHUT TILL", x.count(4), 22);
        due("back as it opens", x.fetched(0, 0), 1);
        x.change(0, 0, 9);
        due("back 2 SECONDS ahead", x.fetched(0, 0), 0);
        due("it takes as long", x.fetched(0, 1), 20);
        x.pass(1);
        due("back 1 SECOND ahead", x.fetched(0, 0), 0);
        x.pass(1);
        due("back as it opens", x.fetched(0, 0), 1);
        x.change(0, 0, 0);
        x.pass(17);
        due("at the door 1 SECOND ahead", x.fetched(0, 0), 0);
        x.pass(1);
        due("at the door as it opens", x.fetched(0, 0), 1);
    }

    private static void fetchedNoSlip() {
        Answers.term(3, "and one doesn't SLIP.");
        SixFigures x = new SixFigures();
        x.way(60, 60, 0);
        due("FAR 60", x.fetched(0, 0), 1);
        x.change(0, 0, 61);
        due("FAR 61", x.fetched(0, 0), 0);
        due("it takes as long", x.fetched(0, 1), 124);
        Answers.text(x, 1, "0");
        due("never", x.fetched(0, 0), 1);
        Answers.text(x, 1, "1");
        due("always", x.fetched(0, 0), 0);
        Answers.text(x, 1, "g<6|w>0");
        due("6 FIGURES, none WRONG", x.fetched(0, 0), 1);
        x.rule(0, 5);
        due("5 FIGURES", x.fetched(0, 0), 0);
        x.rule(0, 6);
        x.enter(0);
        due("one WRONG", x.fetched(0, 0), 0);
    }

    private static void hold(int km, int far, int late, int want) {
        due("km " + km + ", FAR " + far + ", v " + late, Acts.withWay(km, far, late).holdFor(0), want);
    }

    private static void holdFor() {
        Answers.term(3, "HOLD FOR a WAY: the least HOLD (1 to 300), all else as it is, with which one gets in by it.");
        hold(0, 0, 0, 2);
        hold(0, 1, 0, 4);
        hold(0, 0, 1, 3);
        hold(10, 99, 0, 200);
        hold(0, 0, 298, 300);
        hold(0, 0, 299, NONE);
        hold(0, 99, 199, 300);
        hold(0, 99, 200, NONE);
        hold(20, 99, 300, 200);
        hold(50, 0, 300, 3);
        hold(30, 0, 0, 1);
        hold(30, 4, 0, 1);
        hold(30, 5, 0, 2);
        hold(30, 99, 299, 25);
        hold(30, 99, 300, 26);
        hold(40, 0, 0, 4);
        hold(40, 0, 1, 6);
        hold(40, 0, 148, 300);
        hold(40, 0, 149, NONE);
        hold(60, 99, 300, 1);
        SixFigures x = Acts.withWay(0, 5, 0);
        x.rule(1, 1);
        due("whatever HOLD is", x.holdFor(0), 12);
        x.rule(1, 300);
        due("whatever HOLD is", x.holdFor(0), 12);
        due("HOLD stays", x.count(7), 300);
        x.rule(2, 1);
        x.rule(3, 10);
        x.enter(0);
        due("open as one is back", x.holdFor(0), 12);
        x.rule(3, 11);
        x.pass(10);
        x.enter(0);
        due("SHUT as one is back", x.holdFor(0), NONE);
        x.pass(1);
        due("open as one is back", x.holdFor(0), 12);
        Answers.text(x, 1, "1");
        due("one slips", x.holdFor(0), NONE);
    }

    private static void fastest() {
        Answers.term(3, "FASTEST: of WAYS not LOST by which one gets in that by which it takes fewest SECONDS; "
            + "of several the least; the SECONDS.");
        SixFigures x = Acts.withWay(20, 14, 0);
        due("with the last SECOND", x.fastest(0), 0);
        due("with the last SECOND", x.fastest(1), 30);
        x.way(20, 0, 0);
        due("fewer", x.fastest(0), 1);
        due("fewer", x.fastest(1), 2);
        x.way(50, 0, 0);
        due("one more SECOND", x.fastest(0), 1);
        x.change(1, 0, 1);
        due("fewer by one", x.fastest(0), 2);
        due("fewer by one", x.fastest(1), 3);
        x.become(2, 20);
        x.change(2, 0, 1);
        x.change(0, 0, 1);
        due("of three the least", x.fastest(0), 0);
        due("of three", x.fastest(1), 4);
        x.change(0, 2, 1);
        due("not the LOST one", x.fastest(0), 1);
        x.change(1, 2, 1);
        due("not the LOST ones", x.fastest(0), 2);
        x.change(2, 2, 1);
        due("all are LOST", x.fastest(0), NONE);
        x.change(2, 2, 0);
        x.change(2, 0, 15);
        due("by none one gets in", x.fastest(1), NONE);
        // The slower one is the one by which one gets in, THE DOOR being SHUT for the faster one.
        SixFigures y = Acts.withWay(60, 4, 0);
        y.way(60, 5, 0);
        y.rule(2, 1);
        y.rule(3, 10);
        y.enter(0);
        due("the slower one gets in", y.fastest(0), 1);
        due("the slower one gets in", y.fastest(1), 12);
    }

    private static void figuresFor() {
        Answers.term(3, "FIGURES FOR v: the fewest FIGURES (1 to 6) so that TRIES by 10 to the FIGURES "
            + "is 1 by v or less.");
        for (int tries = 1; tries <= 9; tries++) {
            SixFigures x = new SixFigures();
            x.rule(2, tries);
            int power = 1;
            for (int figures = 1; figures <= 6; figures++) {
                power *= 10;
                int most = Math.min(power / tries, 999999);
                due("TRIES " + tries + ", v " + most, x.figuresFor(most), figures);
                if (most < 999999) {
                    due("TRIES " + tries + ", v " + (most + 1), x.figuresFor(most + 1), figures < 6 ? figures + 1 : NONE);
                }
            }
            due("the least v", x.figuresFor(1), 1);
            due("FIGURES stay", x.count(6), 6);
        }
    }

    private static void now() {
        Answers.term(3, "NOW: CODES that COUNT, as a set (bits by their numbers).");
        SixFigures x = Acts.withWay(0, 0, 0);
        due("no CODES", x.counting(), 0);
        for (int i = 0; i < 10; i++) {
            Acts.ask(x, 0, i);
            due("all", x.counting(), (2 << i) - 1);
        }
        for (int i = 0; i < 10; i += 3) {
            x.enter(i);
        }
        due("those not USED", x.counting(), 1023 - 1 - 8 - 64 - 512);
        x.ask(0);
        due("one further down", x.counting(), (1023 - 1 - 8 - 64 - 512) / 2 + 512);
    }

    private static void crossed() {
        Answers.term(3, "CROSSED: pairs of CODES of which the one SENT ahead COMES behind the other one.");
        SixFigures x = Acts.withWay(0, 0, 5);
        due("no CODES", x.crossed(), 0);
        x.ask(0);
        due("one CODE", x.crossed(), 0);
        x.pass(1);
        Answers.text(x, 0, "4");
        x.ask(0);
        due("they come at once", x.crossed(), 0);
        Answers.text(x, 0, "3");
        x.ask(0);
        due("one comes a SECOND ahead of the first", x.crossed(), 1);
        Answers.text(x, 0, "2");
        x.ask(0);
        due("of two SENT at once none is ahead", x.crossed(), 2);
        SixFigures y = new SixFigures();
        Answers.text(y, 0, "300-30*s");
        y.way(0, 0, 0);
        for (int i = 0; i < 10; i++) {
            y.ask(0);
            due("all pairs of " + (i + 1), y.crossed(), i * (i + 1) / 2);
            y.pass(1);
        }
        y.ask(0);
        due("the oldest one is gone", y.crossed(), 45);
        Acts.passTo(y, 400);
        due("come already", y.crossed(), 45);
        SixFigures z = Acts.withWay(0, 0, 9);
        z.ask(0);
        z.pass(1);
        z.become(0, 20);
        Acts.ask(z, 0, 7);
        z.enter(7);
        due("one is USED", z.ofCode(1, 5), 1);
        due("USED or not", z.crossed(), 1);
    }

    private static void atOnce() {
        Answers.term(3, "AT ONCE but v: the fewest PLACES by whose loss (of all WAYS there) no more than v WAYS are left "
            + "that aren't LOST; of several sets the least.");
        SixFigures x = new SixFigures();
        due("no WAYS, how many", x.atOnce(0, 0), 0);
        due("no WAYS, the set", x.atOnce(0, 1), 0);
        int[] places = {5, 5, 5, 1, 1, 3};
        for (int place : places) {
            x.way(0, 0, place);
        }
        int[] many = {3, 2, 2, 1, 1, 1, 0};
        // But 2: PLACES 5 and 3 would do, too, and so would 3 alone, but 5; those sets are greater.
        int[] sets = {32 + 8 + 2, 32 + 2, 32 + 2, 32, 2, 2, 0};
        for (int v = 0; v <= 6; v++) {
            due("how many, but " + v, x.atOnce(v, 0), many[v]);
            due("the set, but " + v, x.atOnce(v, 1), sets[v]);
        }
        x.change(0, 2, 1);
        x.change(1, 2, 1);
        due("two LOST already, but 3", x.atOnce(3, 1), 2);
        due("two LOST already, but 4", x.atOnce(4, 1), 0);
        x.change(2, 2, 1);
        due("none is left at PLACE 5", x.atOnce(0, 1), 8 + 2);
        SixFigures y = new SixFigures();
        for (int place = 0; place < 6; place++) {
            y.way(0, 0, place);
        }
        for (int v = 0; v <= 6; v++) {
            due("all apart, how many", y.atOnce(v, 0), 6 - v);
            due("all apart, the set", y.atOnce(v, 1), (1 << 6 - v) - 1);
        }
        SixFigures z = new SixFigures();
        for (int i = 0; i < 6; i++) {
            z.way(0, 0, 5);
        }
        due("all at the last PLACE", z.atOnce(0, 1), 32);
        due("all at the last PLACE", z.atOnce(5, 0), 1);
        due("all at the last PLACE", z.atOnce(6, 0), 0);
    }

    private static void together() {
        Answers.term(3, "TOGETHER: PLACES at which two or more WAYS lie that aren't LOST, as a set.");
        SixFigures x = new SixFigures();
        due("no WAYS", x.together(), 0);
        x.way(0, 0, 0);
        due("one", x.together(), 0);
        x.way(0, 0, 0);
        due("two at the least PLACE", x.together(), 1);
        x.way(0, 0, 5);
        due("one at another", x.together(), 1);
        x.way(0, 0, 5);
        due("two at the greatest, too", x.together(), 33);
        x.way(0, 0, 5);
        x.change(4, 2, 1);
        due("one of three is LOST", x.together(), 33);
        x.change(3, 2, 1);
        due("two of three are LOST", x.together(), 1);
        SixFigures y = new SixFigures();
        for (int place = 0; place < 6; place++) {
            y.way(0, 0, place);
        }
        due("each at its own", y.together(), 0);
        for (int way = 0; way < 6; way++) {
            y.change(way, 1, way / 2 * 2);
        }
        due("by twos", y.together(), 21);
    }

    private static void waits() {
        Answers.term(3, "WAIT: how many SECONDS till the next CODE that is on its way COMES (of those not USED).");
        SixFigures x = Acts.withWay(49, 0, 300);
        due("no CODES", x.waitFor(), NONE);
        x.ask(0);
        due("the longest", x.waitFor(), 309);
        x.pass(308);
        due("the shortest, expired though it is", x.waitFor(), 1);
        x.pass(1);
        due("it is there", x.waitFor(), NONE);
        x.become(0, 20);
        x.ask(0);
        due("one that is there at once", x.waitFor(), NONE);
        x.become(0, 0);
        Answers.text(x, 0, "9");
        x.ask(0);
        Answers.text(x, 0, "8");
        x.ask(0);
        Answers.text(x, 0, "10");
        x.ask(0);
        due("the next of three", x.waitFor(), 8);
        x.pass(8);
        due("the next of two", x.waitFor(), 1);
        x.rule(4, 1);
        due("NEWEST or not", x.waitFor(), 1);
        x.change(0, 2, 1);
        due("its WAY LOST or not", x.waitFor(), 1);
        x.enter(x.ofCode(4, 1));
        due("one is USED", x.ofCode(4, 5), 1);
        due("none is on its way", x.waitFor(), NONE);
    }

    private static void byWhich() {
        Answers.term(3, "BY WHICH: a SHEET tells LATE of a CODE asked for 0, 1, .. SECONDS from now, were it by one WAY: "
            + "which WAYS that aren't LOST it can be, as a set.");
        SixFigures x = new SixFigures();
        for (int kind = 0; kind < 6; kind++) {
            x.way(10 * kind + kind, 0, 0);
        }
        Answers.text(x, 0, "s");
        x.pass(58);
        x.sheet(0, 16, 3);
        due("CARD alone", x.which(0), 4);
        x.sheet(0, 16, 0);
        due("a SHEET of no numbers: all", x.which(0), 63);
        sheetOf(x, 0, 16, 58, 59, 0, 1);
        due("WAY and PHONE, round by 60", x.which(0), 3);
        sheetOf(x, 0, 16, 29, 29, 0, 0);
        due("LIST", x.which(0), 8);
        sheetOf(x, 0, 16, 62, 63, 4, 5);
        due("SHARED", x.which(0), 16);
        sheetOf(x, 0, 16, 1, 1, 1, 1);
        due("GRID", x.which(0), 32);
        sheetOf(x, 0, 16, 58, 59, 0, 2);
        due("the last isn't so", x.which(0), 0);
        sheetOf(x, 0, 16, 57, 59, 0, 1);
        due("the first isn't so", x.which(0), 0);
        sheetOf(x, 0, 16, 58, 59, 0, 1);
        x.change(0, 2, 1);
        due("one is LOST", x.which(0), 2);
        x.change(1, 2, 1);
        due("both are LOST", x.which(0), 0);
        x.sheet(1, 8, 40);
        x.become(5, 60);
        due("40 numbers", x.which(1), 32 + 4);
        x.put(1, 39, 1);
        due("the fortieth isn't so", x.which(1), 0);
        lowestBits();
    }

    private static void sheetOf(SixFigures x, int sheet, int bits, int... numbers) {
        x.sheet(sheet, bits, numbers.length);
        for (int i = 0; i < numbers.length; i++) {
            x.put(sheet, i, numbers[i]);
        }
    }

    private static void lowestBits() {
        SixFigures x = Acts.withWay(0, 0, 300);
        sheetOf(x, 0, 16, 300);
        due("300 in 16 bits", x.which(0), 1);
        sheetOf(x, 0, 16, 300 + 65536);
        due("just the lowest 16 bits", x.which(0), 1);
        sheetOf(x, 0, 32, 300);
        due("300 in 32 bits", x.which(0), 1);
        sheetOf(x, 0, 32, 300 + 65536);
        due("all 32 bits", x.which(0), 0);
        sheetOf(x, 0, 8, 300);
        due("just the lowest 8 bits are kept", x.which(0), 0);
        Answers.text(x, 0, "44");
        due("300 in 8 bits is 44", x.which(0), 1);
        Answers.text(x, 0, "127");
        sheetOf(x, 0, 8, 127);
        due("127 in 8 bits", x.which(0), 1);
        // Taken as Java's own number of 8 bits, with a sign: it is below 0, which LATE never is.
        Answers.text(x, 0, "128");
        sheetOf(x, 0, 8, 128);
        due("128 in 8 bits", x.which(0), 0);
    }

    private static void guess() {
        Answers.term(3, "GUESS: odds that by TRIES unlike numbers somebody guesses a NUMBER, any one being as likely: "
            + "a fraction in lowest terms (at most 1).");
        int power = 1;
        for (int figures = 1; figures <= 6; figures++) {
            power *= 10;
            for (int tries = 1; tries <= 9; tries++) {
                SixFigures x = new SixFigures();
                x.rule(0, figures);
                x.rule(2, tries);
                int above = x.guess(0);
                int below = x.guess(1);
                due("the same odds", (long) above * power, (long) tries * below);
                due("lowest by 2", above % 2 == 0 && below % 2 == 0 ? 1 : 0, 0);
                due("lowest by 5", above % 5 == 0 && below % 5 == 0 ? 1 : 0, 0);
                due("at most 1", above > 0 && above <= below ? 1 : 0, 1);
            }
        }
        int[][] rows = {{1, 1, 1, 10}, {1, 9, 9, 10}, {1, 8, 4, 5}, {1, 5, 1, 2}, {2, 4, 1, 25}, {3, 8, 1, 125},
            {6, 1, 1, 1000000}, {6, 9, 9, 1000000}, {6, 8, 1, 125000}};
        for (int[] row : rows) {
            SixFigures x = new SixFigures();
            x.rule(0, row[0]);
            x.rule(2, row[1]);
            due("above the line", x.guess(0), row[2]);
            due("below the line", x.guess(1), row[3]);
        }
    }

    private static void oddsAre(String when, SixFigures x, int above, int below) {
        due(when + ", above", x.odds(0, 0), above);
        due(when + ", below", x.odds(0, 1), below);
    }

    private static void odds() {
        Answers.term(3, "ODDS: that one gets in by a WAY, as in FETCHED, the rest of SECOND by 60 being 0 to 59 "
            + "(SECOND being less by its rest by 60, and 0 to 59 more), each just as likely: a fraction in lowest terms "
            + "(0 is 0 by 1).");
        SixFigures x = Acts.withWay(0, 0, 0);
        Answers.text(x, 0, "s");
        int[][] rows = {{1, 0, 1}, {2, 1, 60}, {3, 1, 30}, {60, 59, 60}, {61, 1, 1}, {62, 1, 1}, {31, 1, 2}};
        for (int[] row : rows) {
            x.rule(1, row[0]);
            oddsAre("HOLD " + row[0], x, row[1], row[2]);
        }
        Answers.text(x, 0, "(s=0|s=59)*300");
        x.rule(1, 30);
        oddsAre("neither 0 nor 59", x, 29, 30);
        x.pass(59);
        oddsAre("at SECOND 59", x, 29, 30);
        x.pass(1);
        oddsAre("at SECOND 60", x, 29, 30);
        Answers.text(x, 1, "1");
        oddsAre("one slips", x, 0, 1);
        // SHUT TILL 90: of the SECONDS 60 to 119, from which none is gone by, the last 30 are open.
        SixFigures y = Acts.withWay(20, 0, 0);
        y.rule(2, 1);
        y.rule(3, 28);
        y.pass(60);
        y.enter(0);
        due("SHUT TILL", y.count(4), 90);
        oddsAre("at SECOND 62", y, 1, 2);
        y.pass(57);
        oddsAre("at SECOND 119", y, 1, 2);
        y.pass(1);
        oddsAre("at SECOND 120", y, 1, 1);
        SixFigures z = Acts.withWay(20, 0, 0);
        Acts.passTo(z, 999998);
        oddsAre("near the last SECOND", z, 1, 1);
    }

    /** What promises 16, 17 and 27 say of a WAY that isn't, or is LOST. */
    private static SixFigures withLostWay() {
        SixFigures x = Acts.withWay(20, 3, 0);
        x.way(20, 99, 0);
        x.change(1, 2, 1);
        return x;
    }

    private static void promise16() {
        Answers.sentence(16, "FETCHED: what 0 whether one gets in (1, 0), 1 how many SECONDS it takes (behind entering).");
        SixFigures x = withLostWay();
        due("whether", x.fetched(0, 0), 1);
        due("how many", x.fetched(0, 1), 8);
        x.rule(1, 7);
        due("whether", x.fetched(0, 0), 0);
        due("how many, though one doesn't get in", x.fetched(0, 1), 8);
        Answers.sentence(16, "BEYOND.");
        due("what below", x.fetched(0, -1), BEYOND);
        due("what above", x.fetched(0, 2), BEYOND);
        due("what far below", x.fetched(0, MIN), BEYOND);
        due("what far above", x.fetched(0, MAX), BEYOND);
        due("WAY below", x.fetched(-1, 0), BEYOND);
        due("WAY above", x.fetched(2, 0), BEYOND);
        due("WAY far below", x.fetched(MIN, 0), BEYOND);
        due("WAY far above", x.fetched(MAX, 0), BEYOND);
        due("LOST, yet BEYOND is asked first", x.fetched(1, 2), BEYOND);
        Answers.sentence(16, "STATE: the WAY is LOST.");
        due("LOST, whether", x.fetched(1, 0), STATE);
        due("LOST, how many", x.fetched(1, 1), STATE);
        x.change(1, 2, 0);
        due("LOST no more", x.fetched(1, 1), 200);
    }

    private static void promise17() {
        Answers.sentence(17, "HOLD FOR.");
        SixFigures x = withLostWay();
        due("HOLD FOR", x.holdFor(0), 8);
        Answers.sentence(17, "BEYOND.");
        due("below", x.holdFor(-1), BEYOND);
        due("above", x.holdFor(2), BEYOND);
        due("far below", x.holdFor(MIN), BEYOND);
        due("far above", x.holdFor(MAX), BEYOND);
        due("no WAYS", new SixFigures().holdFor(0), BEYOND);
        Answers.sentence(17, "STATE: the WAY is LOST.");
        due("LOST", x.holdFor(1), STATE);
        Answers.sentence(17, "NONE: with none.");
        Answers.text(x, 0, "300");
        x.become(0, 0);
        due("not with 300", x.holdFor(0), NONE);
        x.become(1, 0);
        due("LOST is asked ahead of NONE", x.holdFor(1), STATE);
        x.change(1, 2, 0);
        due("LOST no more", x.holdFor(1), NONE);
    }

    private static void promise18() {
        Answers.sentence(18, "FASTEST: what 0 the WAY, 1 the SECONDS.");
        SixFigures x = withLostWay();
        due("the WAY", x.fastest(0), 0);
        due("the SECONDS", x.fastest(1), 8);
        Answers.sentence(18, "BEYOND.");
        due("below", x.fastest(-1), BEYOND);
        due("above", x.fastest(2), BEYOND);
        due("far below", x.fastest(MIN), BEYOND);
        due("far above", x.fastest(MAX), BEYOND);
        Answers.sentence(18, "NONE: by none.");
        x.change(0, 2, 1);
        due("by none", x.fastest(0), NONE);
        due("by none", x.fastest(1), NONE);
        due("by none, yet BEYOND is asked first", x.fastest(2), BEYOND);
        due("no WAYS", new SixFigures().fastest(0), NONE);
    }

    private static void promise19() {
        Answers.sentence(19, "FIGURES FOR v (1 to 999999).");
        SixFigures x = new SixFigures();
        x.rule(2, 1);
        due("the least", x.figuresFor(1), 1);
        due("the greatest", x.figuresFor(999999), 6);
        Answers.sentence(19, "BEYOND.");
        due("below", x.figuresFor(0), BEYOND);
        due("further below", x.figuresFor(-1), BEYOND);
        due("above", x.figuresFor(1000000), BEYOND);
        due("far below", x.figuresFor(MIN), BEYOND);
        due("far above", x.figuresFor(MAX), BEYOND);
        Answers.sentence(19, "NONE: not by 6.");
        x.rule(2, 2);
        due("just by 6", x.figuresFor(500000), 6);
        due("just not by 6", x.figuresFor(500001), NONE);
        due("by far not by 6", x.figuresFor(999999), NONE);
        due("not by 6, yet BEYOND is asked first", x.figuresFor(1000000), BEYOND);
        x.rule(2, 9);
        due("the most TRIES", x.figuresFor(999999), NONE);
    }

    private static void promises20And21() {
        Answers.sentence(20, "NOW.");
        SixFigures x = Acts.withWay(0, 0, 2);
        due("none", x.counting(), 0);
        x.ask(0);
        due("on its way", x.counting(), 0);
        x.pass(2);
        due("there", x.counting(), 1);
        Answers.sentence(21, "CROSSED.");
        due("one", x.crossed(), 0);
        SixFigures y = Acts.withWay(0, 0, 2);
        y.ask(0);
        y.pass(1);
        Answers.text(y, 0, "0");
        y.ask(0);
        due("two", y.crossed(), 1);
    }

    private static void promise22() {
        Answers.sentence(22, "AT ONCE but v (0 to 6): what 0 how many, 1 the set.");
        SixFigures x = Acts.withWay(0, 0, 0);
        x.way(0, 0, 4);
        due("the least v, how many", x.atOnce(0, 0), 2);
        due("the least v, the set", x.atOnce(0, 1), 17);
        due("the greatest v, how many", x.atOnce(6, 0), 0);
        due("the greatest v, the set", x.atOnce(6, 1), 0);
        Answers.sentence(22, "BEYOND.");
        due("v below", x.atOnce(-1, 0), BEYOND);
        due("v above", x.atOnce(7, 0), BEYOND);
        due("v far below", x.atOnce(MIN, 1), BEYOND);
        due("v far above", x.atOnce(MAX, 1), BEYOND);
        due("what below", x.atOnce(0, -1), BEYOND);
        due("what above", x.atOnce(0, 2), BEYOND);
        due("what far below", x.atOnce(0, MIN), BEYOND);
        due("what far above", x.atOnce(0, MAX), BEYOND);
    }

    private static void promises23And24() {
        Answers.sentence(23, "TOGETHER.");
        SixFigures x = Acts.withWay(0, 0, 7);
        due("one", x.together(), 0);
        x.way(0, 0, 0);
        due("two", x.together(), 1);
        Answers.sentence(24, "WAIT.");
        x.ask(0);
        due("on its way", x.waitFor(), 7);
        Answers.sentence(24, "NONE: none is on its way.");
        x.pass(7);
        due("there", x.waitFor(), NONE);
        due("no CODES", new SixFigures().waitFor(), NONE);
        due("told", x.told(2), 1);
    }

    private static void promise25() {
        Answers.sentence(25, "BY WHICH, by a SHEET.");
        SixFigures x = Acts.withWay(0, 0, 6);
        x.way(20, 0, 0);
        x.sheet(0, 8, 1);
        sheetOf(x, 3, 32, 6);
        due("the least SHEET", x.which(0), 2);
        due("the greatest SHEET", x.which(3), 1);
        Answers.sentence(25, "BEYOND.");
        due("below", x.which(-1), BEYOND);
        due("above", x.which(4), BEYOND);
        due("far below", x.which(MIN), BEYOND);
        due("far above", x.which(MAX), BEYOND);
        Answers.sentence(25, "NONE: the SHEET is missing.");
        due("never made", x.which(1), NONE);
        x.sheet(0, 0, 0);
        due("made missing", x.which(0), NONE);
        SixFigures y = new SixFigures();
        y.sheet(2, 8, 0);
        due("no WAYS", y.which(2), 0);
    }

    private static void promises26And27() {
        Answers.sentence(26, "GUESS: part 0 above, 1 below the line.");
        SixFigures x = withLostWay();
        due("above", x.guess(0), 3);
        due("below", x.guess(1), 1000000);
        Answers.sentence(26, "BEYOND.");
        for (int part : new int[] {-1, 2, MIN, MAX}) {
            due("part " + part, x.guess(part), BEYOND);
        }
        Answers.sentence(27, "ODDS: part 0 above, 1 below the line.");
        x.become(0, 0);
        Answers.text(x, 0, "s/20*300");
        due("above", x.odds(0, 0), 1);
        due("below", x.odds(0, 1), 3);
        Answers.sentence(27, "BEYOND.");
        for (int part : new int[] {-1, 2, MIN, MAX}) {
            due("part " + part, x.odds(0, part), BEYOND);
            due("LOST, yet BEYOND is asked first", x.odds(1, part), BEYOND);
        }
        for (int way : new int[] {-1, 2, MIN, MAX}) {
            due("WAY " + way, x.odds(way, 0), BEYOND);
        }
        Answers.sentence(27, "STATE: the WAY is LOST.");
        due("LOST, above", x.odds(1, 0), STATE);
        due("LOST, below", x.odds(1, 1), STATE);
        x.change(1, 2, 0);
        due("LOST no more", x.odds(1, 1), 1);
    }
}
