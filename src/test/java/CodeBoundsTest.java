/** Codes and seconds: each sentence of Terms 1 and 3 about them, and of promises 11 to 15 and 28, at its bounds. */
public final class CodeBoundsTest {
    private static final int BEYOND = Answers.BEYOND;
    private static final int STATE = Answers.STATE;
    private static final int MAX = Acts.MAX;
    private static final int MIN = Acts.MIN;
    private static final int LAST_SECOND = Acts.LAST_SECOND;

    private CodeBoundsTest() {
    }

    public static void main(String[] args) {
        tenCodes();
        countsFromWhenItComes();
        countsIfNotUsed();
        countsIfNewest();
        keeps();
        asking();
        enteringTakesTwo();
        enteringTheNumber();
        enteringWrong();
        enteringTillShut();
        draws();
        secondsByDraws();
        promise11();
        promise12();
        promise13();
        promise14();
        promise15();
        promise28();
        Answers.finish();
    }

    private static void due(String call, long got, long want) {
        Answers.due(call, got, want);
    }

    private static void tenCodes() {
        Answers.term(1, "CODES 0 .. (at most 10 at a time; when another one is asked for, the oldest one is gone, "
            + "those behind it go one down): by a WAY, a NUMBER, SENT at a SECOND, COMES at a SECOND, "
            + "HOLDS till a SECOND (with it), USED or not (at first).");
        SixFigures x = Acts.withWay(0, 0, 4);
        x.way(30, 0, 0);
        due("none at first", x.count(1), 0);
        for (int i = 0; i < 13; i++) {
            due("its number", Acts.ask(x, i % 2, 500 + i), Math.min(i, 9));
            due("how many", x.count(1), Math.min(i + 1, 10));
            due("behind the last", x.ofCode(x.count(1), 0), BEYOND);
            due("not USED at first", x.ofCode(x.count(1) - 1, 5), 0);
            due("in", i == 4 ? enterThen(x, 504) : 1, 1);
            x.pass(1);
        }
        // Three are gone: those with 500, 501, 502. The fifth was entered, 4 SECONDS and 2 later.
        for (int i = 0; i < 10; i++) {
            int was = i + 3;
            int sent = was <= 4 ? was : was + 6;
            due("WAY", x.ofCode(i, 0), was % 2);
            due("NUMBER", x.ofCode(i, 1), 500 + was);
            due("SENT", x.ofCode(i, 2), sent);
            due("COMES", x.ofCode(i, 3), sent + (was % 2 == 0 ? 4 : 2));
            due("HOLDS till", x.ofCode(i, 4), sent + (was % 2 == 0 ? 30 : 300));
            due("USED", x.ofCode(i, 5), was == 4 ? 1 : 0);
        }
    }

    private static int enterThen(SixFigures x, int number) {
        x.pass(4);
        return x.enter(number);
    }

    /** Whether the first CODE COUNTS at SECONDS 0, 1, .., as signs 0 and 1. */
    private static void countsAt(SixFigures x, String due) {
        x.ask(0);
        for (int second = 0; second < due.length(); second++) {
            due("COUNTS at " + second, x.ofCode(0, 6), due.charAt(second) - '0');
            due("COUNTS at " + second, x.counting(), due.charAt(second) - '0');
            x.pass(1);
        }
    }

    private static void countsFromWhenItComes() {
        Answers.term(1, "A CODE COUNTS, if it isn't USED, SECOND is COMES or more, and no more than it HOLDS till, "
            + "and, if NEWEST is 1, it is the last one.");
        SixFigures x = Acts.withWay(0, 0, 5);
        x.rule(1, 7);
        countsAt(x, "0000011100");
        x = Acts.withWay(0, 0, 5);
        x.rule(1, 5);
        countsAt(x, "0000010000");
        x = Acts.withWay(0, 0, 5);
        x.rule(1, 4);
        countsAt(x, "0000000000");
        x = Acts.withWay(0, 0, 0);
        x.rule(1, 1);
        countsAt(x, "1100");
        x = Acts.withWay(40, 0, 0);
        x.rule(1, 1);
        countsAt(x, "1000");
    }

    private static void countsIfNotUsed() {
        SixFigures x = Acts.withWay(20, 0, 0);
        Acts.ask(x, 0, 8);
        due("COUNTS", x.ofCode(0, 6), 1);
        x.enter(8);
        due("USED", x.ofCode(0, 5), 1);
        due("COUNTS no more", x.ofCode(0, 6), 0);
        due("NOW", x.counting(), 0);
    }

    private static void countsIfNewest() {
        SixFigures x = Acts.withWay(20, 0, 0);
        for (int i = 0; i < 10; i++) {
            Acts.ask(x, 0, i);
        }
        due("all ten", x.counting(), 1023);
        x.rule(4, 1);
        due("the last one", x.counting(), 512);
        due("not the one ahead of it", x.ofCode(8, 6), 0);
        Acts.ask(x, 0, 10);
        due("the last one of eleven", x.counting(), 512);
        due("its NUMBER", x.ofCode(9, 1), 10);
        due("one that is not the last", x.enter(9), 0);
        due("the last", x.enter(10), 1);
        due("the last is USED: none", x.counting(), 0);
        x.rule(4, 0);
        due("the others", x.counting(), 511);
        SixFigures y = Acts.withWay(0, 0, 9);
        y.way(20, 0, 0);
        y.ask(1);
        y.ask(0);
        y.rule(4, 1);
        due("the last one isn't there yet: none", y.counting(), 0);
    }

    private static void keeps() {
        Answers.term(1, "What holds at a CODE it keeps, whatever becomes of its WAY.");
        SixFigures x = Acts.withWay(12, 34, 6);
        x.pass(10);
        Acts.ask(x, 0, 123456);
        x.become(0, 69);
        x.change(0, 0, 99);
        x.change(0, 1, 5);
        x.change(0, 2, 1);
        x.rule(0, 1);
        x.rule(1, 1);
        Answers.text(x, 0, "300");
        int[] due = {0, 123456, 10, 16, 40, 0, 0};
        for (int what = 0; what <= 6; what++) {
            due("what " + what, x.ofCode(0, what), due[what]);
        }
        x.pass(6);
        due("COUNTS, though its WAY is LOST", x.ofCode(0, 6), 1);
        due("one gets in by it", x.enter(123456), 1);
    }

    private static void asking() {
        Answers.term(1, "ASKING by a WAY that isn't LOST: a draw: NUMBER is its rest by 10 to the FIGURES; "
            + "SENT is SECOND, COMES SECOND and LATE, HOLDS till SECOND and LASTS.");
        int[] drawn = {0, 9, 10, 99, 100, 99999, 100000, 999999, 1000000, 1000001, 16777215};
        int power = 1;
        for (int figures = 1; figures <= 6; figures++) {
            power *= 10;
            SixFigures x = Acts.withWay(0, 0, 0);
            x.rule(0, figures);
            for (int one : drawn) {
                int code = Acts.ask(x, 0, one);
                due("NUMBER of " + figures + " FIGURES by " + one, x.ofCode(code, 1), one % power);
            }
        }
        SixFigures x = Acts.withWay(49, 0, 300);
        x.rule(1, 300);
        x.seed(-5);
        x.pass(7);
        x.ask(0);
        due("one draw", x.count(14), Acts.nextZ(-5));
        due("SENT", x.ofCode(0, 2), 7);
        due("COMES", x.ofCode(0, 3), 7 + 309);
        due("HOLDS till", x.ofCode(0, 4), 7 + 150);
        SixFigures y = Acts.withWay(69, 0, 300);
        Acts.passTo(y, LAST_SECOND);
        due("at the last SECOND", y.ask(0), 0);
        due("HOLDS till", y.ofCode(0, 4), LAST_SECOND + 9999);
        y.become(0, 9);
        due("at the last SECOND", y.ask(0), 1);
        due("COMES", y.ofCode(1, 3), LAST_SECOND + 300);
    }

    private static void enteringTakesTwo() {
        Answers.term(1, "ENTERING a number (0 to 999999), if it isn't SHUT: SECOND is 2 more;");
        SixFigures x = Acts.withWay(20, 0, 0);
        due("below", x.enter(-1), BEYOND);
        due("above", x.enter(1000000), BEYOND);
        Acts.ask(x, 0, 0);
        Acts.ask(x, 0, 999999);
        due("the least", x.enter(0), 1);
        due("2 more", x.count(2), 2);
        due("the greatest", x.enter(999999), 1);
        due("2 more", x.count(2), 4);
        due("a WRONG one", x.enter(999999), 0);
        due("2 more", x.count(2), 6);
        // It is the SECOND behind entering at which the CODE must COUNT.
        due("comes 1 SECOND ahead", entered(1, 30), 1);
        due("comes just then", entered(2, 30), 1);
        due("comes 1 SECOND too late", entered(3, 30), 0);
        due("holds 1 SECOND more", entered(0, 3), 1);
        due("holds just till then", entered(0, 2), 1);
        due("expired 1 SECOND ahead", entered(0, 1), 0);
    }

    private static int entered(int late, int hold) {
        SixFigures x = Acts.withWay(0, 0, late);
        x.rule(1, hold);
        Acts.ask(x, 0, 4);
        return x.enter(4);
    }

    private static void enteringTheNumber() {
        Answers.term(1, "then, if it is the NUMBER of a CODE that COUNTS (of several the first), that is USED, "
            + "IN is 1 more, WRONG 0;");
        SixFigures x = Acts.withWay(0, 0, 0);
        x.enter(5);
        x.enter(5);
        Acts.ask(x, 0, 6);
        x.pass(29);
        Answers.text(x, 0, "20");
        Acts.ask(x, 0, 6);
        Answers.text(x, 0, "1");
        Acts.ask(x, 0, 7);
        Acts.ask(x, 0, 6);
        Acts.ask(x, 0, 6);
        due("WRONG", x.count(3), 2);
        due("in", x.enter(6), 1);
        // The first has expired, the second isn't there, the third has another NUMBER.
        for (int code = 0; code < 5; code++) {
            due("USED " + code, x.ofCode(code, 5), code == 3 ? 1 : 0);
        }
        due("WRONG", x.count(3), 0);
        due("IN", x.count(5), 1);
        due("in again", x.enter(6), 1);
        due("the next of several", x.ofCode(4, 5), 1);
        due("IN", x.count(5), 2);
        due("none is left", x.enter(6), 0);
        due("IN", x.count(5), 2);
        SixFigures y = Acts.withWay(20, 0, 0);
        y.rule(0, 1);
        Acts.ask(y, 0, 13);
        due("more figures than it has", y.enter(13), 0);
        due("as it is", y.enter(3), 1);
    }

    private static void enteringWrong() {
        Answers.term(1, "else WRONG is 1 more;");
        SixFigures x = Acts.withWay(20, 0, 0);
        x.rule(2, 9);
        Acts.ask(x, 0, 70);
        for (int i = 1; i <= 3; i++) {
            due("WRONG", x.enter(69), 0);
            due("1 more", x.count(3), i);
        }
        due("not USED", x.ofCode(0, 5), 0);
        due("IN stays", x.count(5), 0);
        due("SHUT TILL stays", x.count(4), 0);
    }

    private static void enteringTillShut() {
        Answers.term(1, "if it is TRIES or more then, SHUT TILL is SECOND and SHUT FOR, and WRONG 0.");
        for (int tries = 1; tries <= 9; tries++) {
            SixFigures x = new SixFigures();
            x.rule(2, tries);
            x.rule(3, 50);
            for (int i = 1; i < tries; i++) {
                x.enter(0);
            }
            due("one less: WRONG", x.count(3), tries - 1);
            due("one less: not SHUT", x.count(4), 0);
            x.enter(0);
            due("as many: WRONG", x.count(3), 0);
            due("as many: SHUT TILL", x.count(4), 2 * tries + 50);
        }
        SixFigures y = Acts.withWay(20, 0, 0);
        y.rule(2, 9);
        y.enter(0);
        y.enter(0);
        y.enter(0);
        y.rule(2, 2);
        due("more than TRIES, yet none was entered", y.count(4), 0);
        Acts.ask(y, 0, 5);
        y.image();
        due("in, though WRONG is more", y.enter(5), 1);
        due("not SHUT", y.count(4), 0);
        y.restore();
        due("one more WRONG", y.enter(6), 0);
        due("SHUT TILL", y.count(4), 8 + 3600);
        due("WRONG", y.count(3), 0);
    }

    private static void draws() {
        Answers.term(3, "SECONDS by draws: z is told (1 at first); each makes it z * 1103515245 + 12345 (an int), "
            + "and gives z >>> 8.");
        SixFigures x = Acts.withWay(20, 0, 0);
        due("at first", x.count(14), 1);
        x.ask(0);
        due("z", x.count(14), 1103527590);
        due("gives", x.ofCode(0, 1), (1103527590 >>> 8) % 1000000);
        // What wraps: an int; and z below 0 gives a number above 0.
        x.seed(MAX);
        x.ask(0);
        due("z of the greatest", x.count(14), -1103502900 + MIN);
        due("gives", x.ofCode(1, 1), ((-1103502900 + MIN) >>> 8) % 1000000);
        x.seed(Acts.zAhead(-1));
        x.ask(0);
        due("z", x.count(14), -1);
        due("gives", x.ofCode(2, 1), 777215);
        x.seed(Acts.zAhead(MIN));
        x.ask(0);
        due("z", x.count(14), MIN);
        due("gives", x.ofCode(3, 1), 8388608 % 1000000);
        x.seed(Acts.zAhead(255));
        x.ask(0);
        due("gives 0", x.ofCode(4, 1), 0);
    }

    private static void secondsByDraws() {
        Answers.term(3, "Each: a draw: if there are WAYS, and its rest by 4 is 0, another draw: a CODE is asked for "
            + "by the WAY that is that one's rest by how many there are, if that isn't LOST; then SECOND is 1 more.");
        for (int drawn = 0; drawn <= 8; drawn++) {
            SixFigures x = Acts.withWay(20, 0, 0);
            int z = Acts.zThatDraws(drawn);
            x.seed(z);
            boolean asked = drawn % 4 == 0;
            due("drawn " + drawn, x.loose(1), asked ? 1 : 0);
            due("draws", x.count(14), asked ? Acts.nextZ(Acts.nextZ(Acts.nextZ(z))) : Acts.nextZ(z));
            due("CODES", x.count(1), asked ? 1 : 0);
            due("SECOND", x.count(2), 1);
        }
        SixFigures none = new SixFigures();
        int first = Acts.zThatDraws(4);
        none.seed(first);
        due("no WAYS", none.loose(1), 0);
        due("no WAYS: no other draw", none.count(14), Acts.nextZ(first));
        due("no WAYS: SECOND", none.count(2), 1);
        for (int many = 1; many <= 6; many++) {
            for (int way = 0; way < many; way++) {
                byDraw(many, way, false);
                byDraw(many, way, true);
            }
        }
    }

    /** One of many WAYS is drawn, LOST or not, at SECOND 20. */
    private static void byDraw(int many, int way, boolean lost) {
        SixFigures x = Acts.withWay(20, 0, 0);
        for (int i = 1; i < many; i++) {
            x.way(20, 0, 0);
        }
        x.change(way, 2, lost ? 1 : 0);
        x.pass(20);
        int z = Acts.zThatDraws(16777212, many, way);
        x.seed(z);
        due("one of " + many, x.loose(1), lost ? 0 : 1);
        due("SECOND", x.count(2), 21);
        int two = Acts.nextZ(Acts.nextZ(z));
        due("draws", x.count(14), lost ? two : Acts.nextZ(two));
        if (lost) {
            due("none", x.count(1), 0);
        } else {
            due("WAY", x.ofCode(0, 0), way);
            due("NUMBER", x.ofCode(0, 1), (Acts.nextZ(two) >>> 8) % 1000000);
            due("SENT", x.ofCode(0, 2), 20);
        }
    }

    private static void promise11() {
        Answers.sentence(11, "A CODE is asked for by a WAY: its number then (0 .. 9).");
        SixFigures x = Acts.withWay(20, 0, 0);
        for (int i = 0; i < 12; i++) {
            due("ask", x.ask(0), Math.min(i, 9));
        }
        Answers.sentence(11, "BEYOND.");
        due("below", x.ask(-1), BEYOND);
        due("above", x.ask(1), BEYOND);
        due("far below", x.ask(MIN), BEYOND);
        due("far above", x.ask(MAX), BEYOND);
        due("no WAYS", new SixFigures().ask(0), BEYOND);
        x.way(20, 0, 0);
        due("the greatest", x.ask(1), 9);
        Answers.sentence(11, "STATE: the WAY is LOST.");
        x.change(0, 2, 1);
        int z = x.count(14);
        due("LOST", x.ask(0), STATE);
        due("no draw", x.count(14), z);
        due("another isn't", x.ask(1), 9);
        x.change(0, 2, 0);
        due("LOST no more", x.ask(0), 9);
    }

    private static void promise12() {
        Answers.sentence(12, "Of a CODE: 0 WAY, 1 NUMBER, 2 SENT, 3 COMES, 4 HOLDS till, 5 whether USED, "
            + "6 whether it COUNTS.");
        SixFigures x = Acts.withWay(0, 0, 3);
        x.way(0, 0, 0);
        x.pass(50);
        Acts.ask(x, 1, 808);
        int[] sent = {1, 808, 50, 53, 80, 0, 0};
        for (int what = 0; what <= 6; what++) {
            due("sent, what " + what, x.ofCode(0, what), sent[what]);
        }
        x.pass(3);
        due("COUNTS", x.ofCode(0, 6), 1);
        x.enter(808);
        int[] used = {1, 808, 50, 53, 80, 1, 0};
        for (int what = 0; what <= 6; what++) {
            due("USED, what " + what, x.ofCode(0, what), used[what]);
        }
        Answers.sentence(12, "BEYOND.");
        due("no CODES", new SixFigures().ofCode(0, 0), BEYOND);
        due("CODE below", x.ofCode(-1, 0), BEYOND);
        due("CODE above", x.ofCode(1, 0), BEYOND);
        due("CODE far below", x.ofCode(MIN, 6), BEYOND);
        due("CODE far above", x.ofCode(MAX, 6), BEYOND);
        due("what below", x.ofCode(0, -1), BEYOND);
        due("what above", x.ofCode(0, 7), BEYOND);
        due("what far below", x.ofCode(0, MIN), BEYOND);
        due("what far above", x.ofCode(0, MAX), BEYOND);
        for (int i = 0; i < 12; i++) {
            x.ask(0);
        }
        due("the greatest", x.ofCode(9, 0), 0);
        due("an eleventh", x.ofCode(10, 0), BEYOND);
    }

    private static void promise13() {
        Answers.sentence(13, "ENTERING a number: 1 got in, 0 WRONG.");
        SixFigures x = Acts.withWay(20, 0, 0);
        due("no CODES", x.enter(0), 0);
        Acts.ask(x, 0, 31);
        due("got in", x.enter(31), 1);
        due("WRONG", x.enter(31), 0);
        Answers.sentence(13, "BEYOND.");
        due("below", x.enter(-1), BEYOND);
        due("above", x.enter(1000000), BEYOND);
        due("far below", x.enter(MIN), BEYOND);
        due("far above", x.enter(MAX), BEYOND);
        Answers.sentence(13, "STATE: THE DOOR is SHUT, or SECOND would be above 999999.");
        x.rule(2, 1);
        x.rule(3, 10);
        x.enter(0);
        due("SHUT TILL", x.count(4), 18);
        Acts.ask(x, 0, 44);
        due("SHUT, the right number", x.enter(44), STATE);
        due("SHUT, a wrong one", x.enter(45), STATE);
        due("SHUT, yet BEYOND is asked first", x.enter(-1), BEYOND);
        due("SHUT, yet BEYOND is asked first", x.enter(1000000), BEYOND);
        x.pass(9);
        due("SHUT for 1 SECOND more", x.enter(44), STATE);
        x.pass(1);
        due("open", x.enter(44), 1);
        SixFigures y = new SixFigures();
        Acts.passTo(y, 999997);
        due("up to 999999", y.enter(0), 0);
        due("SECOND", y.count(2), 999999);
        due("above it", y.enter(0), STATE);
        due("above it, yet BEYOND is asked first", y.enter(-1), BEYOND);
        SixFigures z = new SixFigures();
        Acts.passTo(z, 999998);
        due("just above it", z.enter(0), STATE);
        due("SECOND stays", z.count(2), 999998);
        due("WRONG stays", z.count(3), 0);
    }

    private static void promise14() {
        Answers.sentence(14, "n (1 to 9999) SECONDS pass: SECOND.");
        SixFigures x = new SixFigures();
        due("the least", x.pass(1), 1);
        due("the greatest", x.pass(9999), 10000);
        Answers.sentence(14, "BEYOND.");
        due("below", x.pass(0), BEYOND);
        due("further below", x.pass(-1), BEYOND);
        due("above", x.pass(10000), BEYOND);
        due("far below", x.pass(MIN), BEYOND);
        due("far above", x.pass(MAX), BEYOND);
        due("SECOND", x.count(2), 10000);
        Answers.sentence(14, "STATE: it would be above 999999.");
        Acts.passTo(x, 990001);
        due("just above", x.pass(9999), STATE);
        due("SECOND stays", x.count(2), 990001);
        due("above, yet BEYOND is asked first", x.pass(10000), BEYOND);
        due("just not above", x.pass(9998), 999999);
        due("at the last", x.pass(1), STATE);
        due("at the last, yet BEYOND is asked first", x.pass(0), BEYOND);
    }

    private static void promise15() {
        Answers.sentence(15, "n (1 to 60) SECONDS by draws: how many CODES were asked for.");
        SixFigures x = Acts.withWay(20, 0, 0);
        x.seed(Acts.zThatDraws(4));
        due("the least", x.loose(1), 1);
        due("SECOND", x.count(2), 1);
        x.seed(0);
        // As many as there are, of a run of draws that asks for more than 10.
        int z = 0;
        int asked = 0;
        for (int i = 0; i < 60; i++) {
            z = Acts.nextZ(z);
            if ((z >>> 8) % 4 == 0) {
                z = Acts.nextZ(Acts.nextZ(z));
                asked++;
            }
        }
        due("more than 10 are asked for here", asked > 10 ? 1 : 0, 1);
        due("the greatest", x.loose(60), asked);
        due("SECOND", x.count(2), 61);
        due("CODES", x.count(1), 10);
        due("z", x.count(14), z);
        Answers.sentence(15, "BEYOND.");
        due("below", x.loose(0), BEYOND);
        due("further below", x.loose(-1), BEYOND);
        due("above", x.loose(61), BEYOND);
        due("far below", x.loose(MIN), BEYOND);
        due("far above", x.loose(MAX), BEYOND);
        Answers.sentence(15, "STATE: SECOND would be above 999999.");
        Acts.passTo(x, 999940);
        due("just above", x.loose(60), STATE);
        due("above, yet BEYOND is asked first", x.loose(61), BEYOND);
        due("z stays", x.count(14), z);
        x.change(0, 2, 1);
        due("just not above", x.loose(59), 0);
        due("SECOND", x.count(2), 999999);
        due("at the last", x.loose(1), STATE);
        due("at the last, yet BEYOND is asked first", x.loose(0), BEYOND);
    }

    private static void promise28() {
        Answers.sentence(28, "z becomes v: what it was (any number).");
        SixFigures x = new SixFigures();
        int was = 1;
        for (int v : new int[] {0, -1, MAX, MIN, Answers.BEYOND, Answers.KIND, 1}) {
            due("seed", x.seed(v), was);
            due("z", x.count(14), v);
            was = v;
        }
        due("no ERROR", x.told(1), 0);
        due("no ERROR", x.told(5), 0);
    }
}
