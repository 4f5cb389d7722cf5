/**
 * Refused calls: which ERROR they answer, in which order ERRORS are asked, and that nothing changes but what told()
 * tells; and that what is only thought changes nothing, too.
 */
public final class RefusedTest {
    private static final int BEYOND = Answers.BEYOND;
    private static final int NONE = Answers.NONE;
    private static final int STATE = Answers.STATE;
    private static final int FULL = Answers.FULL;
    private static final int KIND = Answers.KIND;

    private static final Twins FRESH = new Twins("a new object", x -> { });
    private static final Twins FILLED = new Twins("a full object", Acts::fill);
    private static final Twins TRIED = new Twins("an object with WRONG tries", RefusedTest::tryWrong);
    private static final Twins NEAR_THE_END = new Twins("SECOND 999998", x -> near(x, 999998));
    private static final Twins AT_THE_END = new Twins("SECOND 999999", x -> near(x, 999999));

    private RefusedTest() {
    }

    public static void main(String[] args) throws ReflectiveOperationException {
        Answers.term(0, "Each act tells its ERRORS in the order in which they are asked; one that answers an ERROR "
            + "changes nothing but what told() tells.");
        doorAndWays();
        texts();
        codesAndSeconds();
        whatWouldBe();
        voicesAndSheets();
        imagesAndWhatIsTold();
        inTheirOrder();
        Answers.term(3, "(All this is only thought.)");
        onlyThought();
        onlyAsked();
        Answers.finish();
    }

    private static void tryWrong(SixFigures x) {
        x.way(9, 99, 0);
        x.way(20, 7, 0);
        x.change(1, 2, 1);
        x.enter(0);
        x.enter(0);
        x.sheet(0, 8, 2);
        x.sheet(1, 8, 3);
        x.sheet(2, 32, 2);
    }

    private static void near(SixFigures x, int second) {
        x.way(20, 1, 0);
        x.enter(0);
        Acts.passTo(x, second);
        Acts.ask(x, 0, 55);
    }

    private static void doorAndWays() throws ReflectiveOperationException {
        FILLED.refuse(BEYOND, "rule(-1, 1)", "rule(5, 1)", "rule(MIN, 1)", "rule(MAX, 1)", "rule(0, 0)", "rule(0, 7)",
            "rule(1, 0)", "rule(1, 301)", "rule(2, 0)", "rule(2, 10)", "rule(3, 0)", "rule(3, 10000)", "rule(4, -1)",
            "rule(4, 2)", "rule(0, MIN)", "rule(3, MAX)");
        FILLED.refuse(FULL, "way(0, 0, 0)", "way(69, 99, 5)");
        FRESH.refuse(BEYOND, "way(-1, 0, 0)", "way(70, 0, 0)", "way(0, -1, 0)", "way(0, 100, 0)", "way(0, 0, -1)",
            "way(0, 0, 6)", "way(MIN, MIN, MIN)", "way(MAX, MAX, MAX)", "ofWay(0, 0)", "change(0, 0, 0)",
            "become(0, 0)", "as(0, 0)");
        FILLED.refuse(BEYOND, "ofWay(-1, 0)", "ofWay(6, 0)", "ofWay(0, -1)", "ofWay(0, 7)", "ofWay(MIN, MAX)",
            "change(-1, 0, 0)", "change(6, 0, 0)", "change(0, -1, 0)", "change(0, 3, 0)", "change(0, 0, -1)",
            "change(0, 0, 100)", "change(0, 1, -1)", "change(0, 1, 6)", "change(0, 2, -1)", "change(0, 2, 2)",
            "change(0, MAX, MAX)", "become(-1, 0)", "become(6, 0)", "become(0, -1)", "become(0, 70)",
            "become(MAX, MIN)", "as(-1, 0)", "as(6, 0)", "as(0, -1)", "as(0, 7)", "as(0, MIN)");
        FILLED.refuse(KIND, "as(0, 1)", "as(0, 6)", "as(1, 4)", "as(1, 2)", "as(4, 5)", "as(5, 1)");
    }

    private static void texts() throws ReflectiveOperationException {
        FILLED.refuse(BEYOND, "feed(55, 0)", "feed(55, -1)", "feed(55, 9)", "feed(55, MIN)", "feed(55, MAX)", "text(-1)",
            "text(2)", "text(MIN)", "text(MAX)", "law(-1, 1, 1, 1)", "law(2, 1, 1, 1)", "law(MIN, 1, 1, 1)");
        FILLED.refuse(FULL, "feed(3618502788666131106, 3)", "feed(3618502788666131106, 8)");
    }

    private static void codesAndSeconds() throws ReflectiveOperationException {
        FRESH.refuse(BEYOND, "ask(0)", "ofCode(0, 0)", "pass(0)", "loose(0)", "enter(-1)", "enter(1000000)");
        FILLED.refuse(BEYOND, "ask(-1)", "ask(6)", "ask(MIN)", "ask(MAX)", "ofCode(-1, 0)", "ofCode(10, 0)",
            "ofCode(0, -1)", "ofCode(0, 7)", "ofCode(MAX, MIN)", "pass(0)", "pass(-1)", "pass(10000)", "pass(MIN)",
            "pass(MAX)", "loose(0)", "loose(-1)", "loose(61)", "loose(MIN)", "loose(MAX)");
        FILLED.refuse(STATE, "ask(1)", "enter(0)", "enter(1010)", "enter(999999)");
        TRIED.refuse(BEYOND, "enter(-1)", "enter(1000000)", "enter(MIN)", "enter(MAX)");
        NEAR_THE_END.refuse(STATE, "enter(55)", "enter(0)", "pass(2)", "pass(9999)", "loose(2)", "loose(60)");
        AT_THE_END.refuse(STATE, "enter(55)", "enter(0)", "pass(1)", "pass(9999)", "loose(1)", "loose(60)");
    }

    private static void whatWouldBe() throws ReflectiveOperationException {
        FRESH.refuse(BEYOND, "fetched(0, 0)", "holdFor(0)", "odds(0, 0)", "which(-1)", "which(4)");
        FRESH.refuse(NONE, "fastest(0)", "fastest(1)", "waitFor()", "which(0)", "which(3)");
        FILLED.refuse(BEYOND, "fetched(-1, 0)", "fetched(6, 0)", "fetched(0, -1)", "fetched(0, 2)", "holdFor(-1)",
            "holdFor(6)", "fastest(-1)", "fastest(2)", "figuresFor(0)", "figuresFor(-1)", "figuresFor(1000000)",
            "atOnce(-1, 0)", "atOnce(7, 0)", "atOnce(0, -1)", "atOnce(0, 2)", "which(-1)", "which(4)", "guess(-1)",
            "guess(2)", "odds(-1, 0)", "odds(6, 0)", "odds(0, -1)", "odds(0, 2)");
        FILLED.refuse(STATE, "fetched(1, 0)", "fetched(1, 1)", "holdFor(1)", "odds(1, 0)", "odds(1, 1)");
        FILLED.refuse(NONE, "holdFor(0)", "fastest(0)", "fastest(1)", "figuresFor(500001)", "figuresFor(999999)",
            "which(3)");
        TRIED.refuse(NONE, "holdFor(0)", "fastest(0)", "figuresFor(333334)", "waitFor()");
    }

    private static void voicesAndSheets() throws ReflectiveOperationException {
        FRESH.refuse(BEYOND, "voice(0, 0, 0)", "sheet(0, 8, 41)", "sheet(0, 1, 1)", "sheet(4, 8, 1)", "put(4, 0, 0)",
            "move(4, 0, 0, 0, 0)", "fars(4)", "judge(4)");
        FRESH.refuse(NONE, "trace(0)", "put(0, 0, 0)", "move(0, 0, 1, 0, 0)", "fars(0)", "judge(0)");
        FRESH.refuse(STATE, "sheet(0, 8, -1)");
        FILLED.refuse(BEYOND, "voice(-1, 0, 0)", "voice(6, 0, 0)", "voice(0, -1, 0)", "voice(0, 4, 0)",
            "voice(MAX, MAX, MAX)");
        FILLED.refuse(NONE, "trace(-1)", "trace(4)", "trace(40)", "trace(MIN)", "trace(MAX)");
        FILLED.refuse(BEYOND, "sheet(-1, 8, 1)", "sheet(4, 8, 1)", "sheet(-1, 0, 0)", "sheet(0, 7, 1)", "sheet(0, 9, 1)",
            "sheet(0, 24, 1)", "sheet(0, 64, 1)", "sheet(0, -8, 1)", "sheet(0, 8, 41)", "sheet(3, 32, 41)",
            "sheet(0, 16, MAX)");
        FILLED.refuse(STATE, "sheet(0, 8, -1)", "sheet(1, 16, -1)", "sheet(3, 32, MIN)");
        FILLED.refuse(BEYOND, "put(-1, 0, 0)", "put(4, 0, 0)", "put(0, -1, 0)", "put(0, 6, 0)", "put(2, 40, 0)",
            "put(1, MIN, 0)", "put(1, MAX, 0)", "fars(-1)", "fars(4)", "fars(MIN)", "judge(-1)", "judge(4)", "judge(MAX)");
        FILLED.refuse(NONE, "put(3, 0, 0)", "fars(3)", "judge(3)", "move(3, 0, 0, 0, 1)", "move(0, 0, 3, 0, 1)",
            "move(3, 0, 3, 0, 0)");
        FILLED.refuse(KIND, "move(0, 0, 1, 0, 1)", "move(1, 0, 2, 0, 5)", "move(1, 0, 0, 0, 0)");
        FILLED.refuse(BEYOND, "move(-1, 0, 0, 0, 1)", "move(0, 0, 4, 0, 1)", "move(0, 0, 2, 0, -1)",
            "move(0, -1, 2, 0, 1)", "move(0, 0, 2, -1, 1)", "move(0, 0, 2, 0, 7)", "move(0, 1, 2, 0, 6)",
            "move(0, 0, 2, 35, 6)", "move(2, 0, 0, 1, 6)", "move(0, 7, 2, 0, 0)", "move(0, 0, 2, 41, 0)",
            "move(2, 1, 2, 0, 40)", "move(0, MAX, 2, MAX, MAX)", "move(0, MIN, 2, 0, 1)");
    }

    private static void imagesAndWhatIsTold() throws ReflectiveOperationException {
        FRESH.refuse(NONE, "restore()");
        TRIED.refuse(NONE, "restore()");
        FILLED.refuse(FULL, "tell(0)", "tell(MIN)");
        FILLED.refuse(BEYOND, "count(-1)", "count(15)", "count(MIN)", "count(MAX)", "told(0)", "told(6)", "told(-1)",
            "told(MIN)", "told(MAX)");
    }

    /** Calls with several faults answer the ERROR that is asked first. */
    private static void inTheirOrder() throws ReflectiveOperationException {
        FILLED.refuse(BEYOND, "way(70, 0, 0)", "way(0, 100, 0)", "way(0, 0, 6)", "feed(0, 9)", "enter(-1)",
            "enter(1000000)", "fetched(1, 2)", "odds(1, 2)", "fastest(2)", "figuresFor(1000000)");
        FILLED.refuse(STATE, "holdFor(1)");
        NEAR_THE_END.refuse(BEYOND, "enter(-1)", "enter(1000000)", "pass(10000)", "loose(61)");
        AT_THE_END.refuse(BEYOND, "pass(0)", "pass(-1)", "loose(0)", "loose(61)");
        FILLED.refuse(BEYOND, "sheet(4, 8, -1)", "sheet(-1, 7, -1)", "sheet(0, 7, -1)", "sheet(0, 33, MIN)",
            "put(4, -1, 0)", "move(3, 0, 4, 0, 0)", "move(4, 0, 3, 0, -1)", "move(-1, -1, -1, -1, -1)");
        FILLED.refuse(NONE, "put(3, -1, 0)", "put(3, 40, 0)", "move(0, 0, 3, 0, -1)", "move(3, -1, 1, 99, 1)");
        FILLED.refuse(KIND, "move(0, 0, 1, 0, -1)", "move(0, -1, 1, 0, 1)", "move(1, 0, 0, 99, 1)");
    }

    private static void onlyThought() throws ReflectiveOperationException {
        FILLED.changesNothing("fetched(0, 0)", 0);
        FILLED.changesNothing("fetched(5, 1)", 20);
        FILLED.changesNothing("counting()", 512);
        FILLED.changesNothing("crossed()", 15);
        FILLED.changesNothing("waitFor()", 3);
        FILLED.changesNothing("together()", 0);
        FILLED.changesNothing("guess(1)", 5000);
        FILLED.changesNothing("odds(0, 1)", 1);
        FILLED.changesNothing("atOnce(0, 1)", 1 + 2 + 4 + 8 + 32);
        FILLED.changesNothing("atOnce(0, 0)", 5);
        FILLED.changesNothing("figuresFor(500000)", 6);
        FILLED.changesNothing("which(0)", 0);
        TRIED.changesNothing("fetched(0, 1)", 200);
        TRIED.changesNothing("which(0)", 0);
        NEAR_THE_END.changesNothing("fetched(0, 0)", 1);
        NEAR_THE_END.changesNothing("fetched(0, 1)", 4);
        NEAR_THE_END.changesNothing("holdFor(0)", 4);
        NEAR_THE_END.changesNothing("fastest(0)", 0);
        NEAR_THE_END.changesNothing("fastest(1)", 4);
        NEAR_THE_END.changesNothing("odds(0, 0)", 1);
        NEAR_THE_END.changesNothing("counting()", 1);
        AT_THE_END.changesNothing("fetched(0, 0)", 1);
        AT_THE_END.changesNothing("crossed()", 0);
    }

    /** Calls that only ask change nothing either. */
    private static void onlyAsked() throws ReflectiveOperationException {
        FILLED.changesNothing("ofWay(4, 6)", 22);
        FILLED.changesNothing("as(4, 1)", 7);
        FILLED.changesNothing("law(0, 1, 2, 3)", 7);
        FILLED.changesNothing("ofCode(9, 1)", 1011);
        FILLED.changesNothing("trace(3)", 12);
        FILLED.changesNothing("judge(0)", 0);
        FILLED.changesNothing("count(12)", 20);
        FILLED.changesNothing("told(1)", 0);
    }
}
