/** For each promise of the document calls with answers worked out by hand from its words. */
public final class PromiseTest {
    private static final int BEYOND = Answers.BEYOND;
    private static final int NONE = Answers.NONE;
    private static final int STATE = Answers.STATE;
    private static final int FULL = Answers.FULL;
    private static final int KIND = Answers.KIND;
    private static final int MAX = Integer.MAX_VALUE;
    private static final int MIN = Integer.MIN_VALUE;

    private PromiseTest() {
    }

    private static void due(String call, long got, long want) {
        Answers.due(call, got, want);
    }

    public static void main(String[] args) {
        promise1NewObject();
        promise2Rule();
        promise3Way();
        promise4OfWay();
        promise5Change();
        promise6Become();
        promise7As();
        promise8Feed();
        promise9Text();
        promise10Law();
        promise11Ask();
        promise12OfCode();
        promise13Enter();
        promise13Shut();
        promise14Pass();
        promise15Loose();
        promise16Fetched();
        promise17HoldFor();
        promise18Fastest();
        promise19FiguresFor();
        promise20Counting();
        promise21Crossed();
        promise22AtOnce();
        promise23Together();
        promise24WaitFor();
        promise25Which();
        promise26Guess();
        promise27Odds();
        promise28Seed();
        promise29Voice();
        promise30Trace();
        promise31Sheet();
        promise32Put();
        promise33Move();
        promise34Fars();
        promise35Judge();
        promise36Image();
        promise37Restore();
        promise37Counters();
        promise38Tell();
        promise39Check();
        promise40Count();
        promise41Told();
        Answers.finish();
    }

    private static void promise1NewObject() {
        SixFigures x = new SixFigures();
        Answers.dueAll("new, count", Acts.counts(x), 0, 0, 0, 0, 0, 0, 6, 30, 3, 3600, 0, 0, 0, 0, 1);
        for (int sheet = 0; sheet < 4; sheet++) {
            due("new, judge", x.judge(sheet), NONE);
        }
        due("new, restore", x.restore(), NONE);
        due("new, trace", x.trace(0), NONE);
        due("new, told(1)", x.told(1), 0);
        due("new, told(2)", x.told(2), 6);
        due("new, ofWay", x.ofWay(0, 0), BEYOND);
        due("new, ofCode", x.ofCode(0, 0), BEYOND);
        due("new, LATE", x.law(0, 4, 0, 0), 7);
        due("new, SLIPS", x.law(1, 61, 0, 0), 1);
        SixFigures y = new SixFigures();
        y.rule(0, 1);
        y.way(0, 0, 0);
        due("another object's FIGURES", x.count(6), 6);
        due("another object's WAYS", x.count(0), 0);
    }

    private static void promise2Rule() {
        SixFigures x = new SixFigures();
        int[] first = {6, 30, 3, 3600, 0};
        int[] least = {1, 1, 1, 1, 0};
        int[] most = {6, 300, 9, 9999, 1};
        for (int what = 0; what < 5; what++) {
            due("rule least", x.rule(what, least[what]), first[what]);
            due("rule most", x.rule(what, most[what]), least[what]);
            due("rule below", x.rule(what, least[what] - 1), BEYOND);
            due("rule above", x.rule(what, most[what] + 1), BEYOND);
            due("rule far below", x.rule(what, MIN), BEYOND);
            due("rule far above", x.rule(what, MAX), BEYOND);
            due("rule stays", x.count(6 + what), most[what]);
        }
        due("rule -1", x.rule(-1, 1), BEYOND);
        due("rule 5", x.rule(5, 1), BEYOND);
        due("rule MIN", x.rule(MIN, 1), BEYOND);
        due("rule MAX", x.rule(MAX, 1), BEYOND);
        due("rule told", x.told(1), 24);
    }

    private static void promise3Way() {
        SixFigures x = new SixFigures();
        due("way", x.way(-1, 0, 0), BEYOND);
        due("way", x.way(70, 0, 0), BEYOND);
        due("way", x.way(0, -1, 0), BEYOND);
        due("way", x.way(0, 100, 0), BEYOND);
        due("way", x.way(0, 0, -1), BEYOND);
        due("way", x.way(0, 0, 6), BEYOND);
        due("ways", x.count(0), 0);
        for (int i = 0; i < 6; i++) {
            due("way", x.way(69 - i, 99 - i, i), i);
        }
        due("way", x.way(0, 0, 0), FULL);
        due("way", x.way(0, 0, 6), BEYOND);
        due("ways", x.count(0), 6);
        due("kind", x.ofWay(2, 0), 6);
        due("m", x.ofWay(2, 1), 7);
        due("far", x.ofWay(2, 2), 97);
        due("place", x.ofWay(2, 3), 2);
        due("lost", x.ofWay(2, 4), 0);
    }

    private static void promise4OfWay() {
        SixFigures x = new SixFigures();
        x.rule(1, 45);
        x.way(4, 1, 0);
        x.way(14, 1, 1);
        x.way(24, 1, 2);
        x.way(34, 1, 3);
        x.way(44, 1, 4);
        x.way(54, 1, 5);
        int[] late = {7, 7, 0, 3, 11, 1};
        int[] lasts = {45, 45, 45, 450, 22, 45};
        for (int way = 0; way < 6; way++) {
            due("LATE " + way, x.ofWay(way, 5), late[way]);
            due("LASTS " + way, x.ofWay(way, 6), lasts[way]);
        }
        x.become(5, 64);
        due("LATE of SPARE", x.ofWay(5, 5), 0);
        due("LASTS of SPARE", x.ofWay(5, 6), 9999);
        Answers.text(x, 0, "k*100+s");
        x.pass(61);
        due("LATE of WAY by KIND and SECOND", x.ofWay(0, 5), 1);
        due("LATE of PHONE", x.ofWay(1, 5), 101);
        due("LATE of CARD", x.ofWay(2, 5), 0);
        due("LATE of LIST, held ahead of its half", x.ofWay(3, 5), 150);
        due("LATE of SHARED, held ahead of m", x.ofWay(4, 5), 304);
        due("ofWay", x.ofWay(0, 7), BEYOND);
        due("ofWay", x.ofWay(0, -1), BEYOND);
        due("ofWay", x.ofWay(6, 0), BEYOND);
        due("ofWay", x.ofWay(-1, 0), BEYOND);
        due("ofWay", x.ofWay(MIN, MAX), BEYOND);
    }

    private static void promise5Change() {
        SixFigures x = new SixFigures();
        x.way(11, 22, 3);
        due("FAR", x.change(0, 0, 99), 22);
        due("FAR", x.change(0, 0, 100), BEYOND);
        due("FAR", x.change(0, 0, -1), BEYOND);
        due("FAR", x.change(0, 0, 0), 99);
        due("PLACE", x.change(0, 1, 5), 3);
        due("PLACE", x.change(0, 1, 6), BEYOND);
        due("PLACE", x.change(0, 1, -1), BEYOND);
        due("PLACE", x.change(0, 1, 0), 5);
        due("LOST", x.change(0, 2, 1), 0);
        due("LOST", x.change(0, 2, 2), BEYOND);
        due("LOST", x.change(0, 2, -1), BEYOND);
        due("LOST is", x.ofWay(0, 4), 1);
        due("LOST", x.change(0, 2, 0), 1);
        due("what", x.change(0, 3, 0), BEYOND);
        due("what", x.change(0, -1, 0), BEYOND);
        due("way", x.change(1, 0, 0), BEYOND);
        due("way", x.change(-1, 0, 0), BEYOND);
        due("KIND", x.ofWay(0, 0), 1);
        due("m", x.ofWay(0, 1), 1);
    }

    private static void promise6Become() {
        SixFigures x = new SixFigures();
        x.way(35, 7, 4);
        x.change(0, 2, 1);
        due("become", x.become(0, 69), 3);
        due("become", x.become(0, 70), BEYOND);
        due("become", x.become(0, -1), BEYOND);
        due("become", x.become(1, 0), BEYOND);
        due("become", x.become(-1, 0), BEYOND);
        due("KIND", x.ofWay(0, 0), 6);
        due("m", x.ofWay(0, 1), 9);
        due("FAR stays", x.ofWay(0, 2), 7);
        due("PLACE stays", x.ofWay(0, 3), 4);
        due("LOST stays", x.ofWay(0, 4), 1);
        due("become", x.become(0, 0), 6);
    }

    private static void promise7As() {
        int[][] above = {{0}, {0, 1}, {0, 2}, {0, 3}, {0, 1, 4}, {0, 2, 5}, {0, 3, 6}};
        SixFigures x = new SixFigures();
        x.way(0, 0, 0);
        for (int kind = 0; kind < 7; kind++) {
            x.become(0, 10 * kind + 8);
            for (int other = 0; other < 7; other++) {
                boolean is = false;
                for (int one : above[kind]) {
                    is |= one == other;
                }
                due("KIND " + kind + " as " + other, x.as(0, other), is ? 8 : KIND);
            }
        }
        due("as", x.as(0, 7), BEYOND);
        due("as", x.as(0, -1), BEYOND);
        due("as", x.as(1, 0), BEYOND);
        due("as", x.as(-1, 0), BEYOND);
    }

    private static void promise8Feed() {
        SixFigures x = new SixFigures();
        due("feed", x.feed(0, 0), BEYOND);
        due("feed", x.feed(0, 9), BEYOND);
        due("feed", x.feed(0, -1), BEYOND);
        due("feed", x.feed(0, MIN), BEYOND);
        for (int i = 1; i <= 6; i++) {
            due("feed", x.feed(-1L, 8), 8 * i);
        }
        due("feed", x.feed(0, 3), FULL);
        due("feed", x.feed(0, 9), BEYOND);
        due("bytes", x.count(11), 48);
        due("feed", x.feed(0, 2), 50);
        due("feed", x.feed(0, 1), FULL);
        SixFigures y = new SixFigures();
        // "1234+567" with the lowest byte first, then "8" with other bytes above it.
        due("feed", y.feed(0x3736352B34333231L, 8), 8);
        due("feed", y.feed(0x7F7F7F38L, 1), 9);
        due("text", y.text(0), 1);
        due("law", y.law(0, 0, 0, 0), 300);
        y.feed(0x3031, 2);
        due("text", y.text(0), 1);
        due("law", y.law(0, 0, 0, 0), 10);
    }

    private static void promise9Text() {
        SixFigures x = new SixFigures();
        due("empty", x.text(0), -10);
        Answers.feed(x, "m");
        due("use", x.text(-1), BEYOND);
        due("use", x.text(2), BEYOND);
        due("THE TAPE stays", x.count(11), 1);
        due("text", x.text(0), 1);
        due("THE TAPE is empty", x.count(11), 0);
        due("FAULT", Answers.text(x, 0, "m+f"), -12);
        due("THE TAPE is empty", x.count(11), 0);
        due("the one ahead stays", x.law(0, 77, 0, 0), 77);
        String[] faults = {"1<2<3", "12345", "(1", "1)", "!!!!!!1", "((((((1", "!(!(!(1", "1 ", "", "1+", "()", "-1",
            "1==2", "m(", "!", "mm", "1|", "(1<2)=3=", "9999", "1++2", "!1!"};
        int[] places = {3, 4, 2, 1, 5, 5, 5, 1, 0, 2, 1, 0, 2, 1, 1, 1, 2, 7, -1, 2, 2};
        for (int i = 0; i < faults.length; i++) {
            due(faults[i], Answers.text(x, 0, faults[i]), places[i] < 0 ? 1 : -10 - places[i]);
        }
        due("five open", Answers.text(x, 1, "!!!!!(1)"), -15);
        due("five open", Answers.text(x, 1, "!!!!(f)+!!(!(g))+(w)"), 1);
        due("names of the other use", Answers.text(x, 1, "m"), -10);
        due("a byte above 127", Answers.text(x, 1, "f" + (char) 230), -11);
        due("byte 0", Answers.text(x, 1, "f" + (char) 0), -11);
        String longest = "1+1+1+1+1+1+1+1+1+1+1+1+1+1+1+1+1+1+1+1+1+1+1+1+11";
        due("50 bytes", Answers.text(x, 0, longest), 1);
        due("50 bytes", x.law(0, 0, 0, 0), 35);
        due("50 bytes too early", Answers.text(x, 0, longest.substring(0, 49) + "+"), -60);
        due("50 bytes still", x.law(0, 0, 0, 0), 35);
    }

    private static int law(String text, int a, int b, int c) {
        SixFigures x = new SixFigures();
        due(text, Answers.text(x, 0, text), 1);
        return x.law(0, a, b, c);
    }

    private static void promise10Law() {
        SixFigures x = new SixFigures();
        due("use", x.law(-1, 0, 0, 0), BEYOND);
        due("use", x.law(2, 0, 0, 0), BEYOND);
        due("3+m", x.law(0, 5, 9, 9), 8);
        due("3+m held", x.law(0, 298, 0, 0), 300);
        due("3+m held", x.law(0, -4, 0, 0), 0);
        due("3+m wraps", x.law(0, MAX, 0, 0), 0);
        due("f>60", x.law(1, 60, 9, 9), 0);
        due("f>60", x.law(1, 61, 0, 0), 1);
        Answers.text(x, 1, "f-g-w");
        due("SLIPS held", x.law(1, 9, 3, 3), 1);
        due("SLIPS held", x.law(1, 3, 3, 3), 0);
        due("SLIPS as it is", x.law(1, 4, 2, 1), 1);
        due("left to right", law("m-k-s", 100, 30, 20), 50);
        due("left to right", law("m/k*s", 100, 30, 20), 60);
        due("by 0", law("m/k+s%k+5", 100, 0, 20), 5);
        due("cut toward 0", law("100+m/k", -7, 2, 0), 97);
        due("rest of a negative", law("100+m%k", -7, 4, 0), 97);
        due("MIN by -1", law("m/k=m", MIN, -1, 0), 1);
        due("MIN by -1, rest", law("m%k+7", MIN, -1, 0), 7);
        due("wraps", law("(m+1<0)*9", MAX, 0, 0), 9);
        due("wraps", law("m*m+1", 65536, 0, 0), 1);
        due("| is 1", law("m|k", 7, 0, 0), 1);
        due("| is 0", law("m|k", 0, 0, 0), 0);
        due("& is 1", law("m&k", 7, 8, 0), 1);
        due("& is 0", law("m&k", 7, 0, 0), 0);
        due("! of not 0", law("!m", 7, 0, 0), 0);
        due("! binds first", law("!m+5", 0, 0, 0), 6);
        due("& ahead of |", law("m|k&s", 1, 0, 0), 1);
        due("< behind +", law("1+m<k+1", 3, 4, 0), 1);
        due("=", law("m=k", 3, 3, 0), 1);
        due("<", law("m<k", 3, 3, 0), 0);
        due(">", law("m>k", 3, 3, 0), 0);
        due("& behind <", law("m<k&s", 1, 2, 3), 1);
        due("brackets", law("(m+k)*s", 1, 2, 3), 9);
        due("a lone S is no truth", law("(m)", 7, 0, 0), 7);
        due("zeros ahead", law("0007", 0, 0, 0), 7);
    }

    private static void promise11Ask() {
        SixFigures x = new SixFigures();
        due("no WAY", x.ask(0), BEYOND);
        x.way(3, 0, 0);
        due("no WAY", x.ask(1), BEYOND);
        due("no WAY", x.ask(-1), BEYOND);
        x.change(0, 2, 1);
        due("LOST", x.ask(0), STATE);
        due("no draw yet", x.count(14), 1);
        x.change(0, 2, 0);
        due("ask", x.ask(0), 0);
        due("z", x.count(14), 1103527590);
        due("NUMBER", x.ofCode(0, 1), 4310654 % 1000000);
        x.rule(0, 3);
        x.seed(1);
        due("ask", x.ask(0), 1);
        due("NUMBER of 3 FIGURES", x.ofCode(1, 1), 654);
        due("NUMBER of the first stays", x.ofCode(0, 1), 310654);
        x.seed(-1);
        x.ask(0);
        due("NUMBER is never negative", x.ofCode(2, 1), ((-1 * 1103515245 + 12345) >>> 8) % 1000);
        for (int i = 3; i < 10; i++) {
            x.pass(1);
            due("ask", x.ask(0), i);
        }
        int second = x.ofCode(1, 1);
        x.pass(1);
        due("an eleventh", x.ask(0), 9);
        due("codes", x.count(1), 10);
        due("go one down", x.ofCode(0, 1), second);
        due("SENT of the last", x.ofCode(9, 2), 8);
        due("SENT of the one ahead", x.ofCode(8, 2), 7);
        SixFigures y = new SixFigures();
        y.way(20, 0, 0);
        y.way(20, 0, 0);
        y.ask(1);
        due("BY", y.ofCode(0, 0), 1);
        due("in", y.enter(y.ofCode(0, 1)), 1);
        for (int i = 0; i < 9; i++) {
            y.ask(0);
        }
        due("USED", y.ofCode(0, 5), 1);
        due("an eleventh", y.ask(0), 9);
        due("not USED", y.ofCode(9, 5), 0);
        due("BY", y.ofCode(9, 0), 0);
    }

    private static void promise12OfCode() {
        SixFigures x = new SixFigures();
        x.way(44, 0, 0);
        x.way(35, 0, 0);
        x.pass(100);
        x.ask(0);
        due("BY", x.ofCode(0, 0), 0);
        due("SENT", x.ofCode(0, 2), 100);
        due("COMES", x.ofCode(0, 3), 111);
        due("HOLDS till", x.ofCode(0, 4), 115);
        due("USED", x.ofCode(0, 5), 0);
        x.pass(10);
        due("COUNTS too early", x.ofCode(0, 6), 0);
        x.pass(1);
        due("COUNTS as it COMES", x.ofCode(0, 6), 1);
        x.pass(4);
        due("COUNTS with the last SECOND", x.ofCode(0, 6), 1);
        x.ask(1);
        x.rule(4, 1);
        due("not the newest", x.ofCode(0, 6), 0);
        x.rule(4, 0);
        x.pass(1);
        due("COUNTS no more", x.ofCode(0, 6), 0);
        x.become(0, 69);
        x.change(0, 2, 1);
        x.rule(1, 300);
        due("HOLDS stays", x.ofCode(0, 4), 115);
        due("COMES stays", x.ofCode(0, 3), 111);
        due("HOLDS of LIST", x.ofCode(1, 4), 415);
        due("COMES of LIST", x.ofCode(1, 3), 119);
        due("code", x.ofCode(2, 0), BEYOND);
        due("code", x.ofCode(-1, 0), BEYOND);
        due("what", x.ofCode(0, 7), BEYOND);
        due("what", x.ofCode(0, -1), BEYOND);
    }

    private static void promise13Enter() {
        SixFigures x = new SixFigures();
        due("number", x.enter(-1), BEYOND);
        due("number", x.enter(1000000), BEYOND);
        due("second", x.count(2), 0);
        due("no CODES", x.enter(999999), 0);
        due("second", x.count(2), 2);
        due("WRONG", x.count(3), 1);
        x.way(20, 0, 0);
        x.ask(0);
        due("in", x.enter(310654), 1);
        due("second", x.count(2), 4);
        due("WRONG", x.count(3), 0);
        due("IN", x.count(5), 1);
        due("USED", x.ofCode(0, 5), 1);
        due("USED twice", x.enter(310654), 0);
        // Of two CODES with the same NUMBER the first that COUNTS.
        x.seed(1);
        x.ask(0);
        x.seed(1);
        x.ask(0);
        due("in", x.enter(310654), 1);
        due("first is USED", x.ofCode(1, 5), 1);
        due("second isn't", x.ofCode(2, 5), 0);
        due("in", x.enter(310654), 1);
        due("second is USED", x.ofCode(2, 5), 1);
        // It must COUNT when the 2 SECONDS are over.
        SixFigures y = new SixFigures();
        y.rule(1, 2);
        y.way(20, 0, 0);
        y.ask(0);
        due("just holds", y.enter(310654), 1);
        y.seed(1);
        y.ask(0);
        y.pass(1);
        due("expired while entering", y.enter(310654), 0);
        Answers.text(y, 0, "2");
        y.become(0, 0);
        y.seed(1);
        y.ask(0);
        due("comes while entering", y.enter(310654), 1);
        y.seed(1);
        y.ask(0);
        y.ask(0);
        y.rule(4, 1);
        due("not the newest", y.enter(310654), 0);
    }

    private static void promise13Shut() {
        SixFigures x = new SixFigures();
        x.rule(2, 2);
        x.rule(3, 5);
        x.enter(0);
        due("not SHUT", x.count(4), 0);
        x.enter(0);
        due("SHUT TILL", x.count(4), 9);
        due("WRONG", x.count(3), 0);
        due("SHUT", x.enter(0), STATE);
        due("SHUT, yet BEYOND first", x.enter(-1), BEYOND);
        x.pass(4);
        due("SHUT", x.enter(0), STATE);
        due("second", x.count(2), 8);
        x.pass(1);
        due("open", x.enter(0), 0);
        due("WRONG", x.count(3), 1);
        x.rule(2, 9);
        x.enter(0);
        x.enter(0);
        due("WRONG", x.count(3), 3);
        x.rule(2, 1);
        due("fewer TRIES than WRONG", x.enter(0), 0);
        due("SHUT TILL", x.count(4), 22);
        Acts.passTo(x, 999997);
        due("the last SECOND", x.enter(0), 0);
        due("second", x.count(2), 999999);
        due("SHUT TILL", x.count(4), 1000004);
        SixFigures y = new SixFigures();
        Acts.passTo(y, 999998);
        due("above the last SECOND", y.enter(0), STATE);
        due("WRONG", y.count(3), 0);
    }

    private static void promise14Pass() {
        SixFigures x = new SixFigures();
        due("pass", x.pass(0), BEYOND);
        due("pass", x.pass(-1), BEYOND);
        due("pass", x.pass(10000), BEYOND);
        due("pass", x.pass(MAX), BEYOND);
        due("pass", x.pass(1), 1);
        due("pass", x.pass(9999), 10000);
        Acts.passTo(x, 999990);
        due("pass", x.pass(10), STATE);
        due("pass", x.pass(10000), BEYOND);
        due("pass", x.pass(9), 999999);
        due("pass", x.pass(1), STATE);
    }

    private static void promise15Loose() {
        SixFigures x = new SixFigures();
        due("loose", x.loose(0), BEYOND);
        due("loose", x.loose(61), BEYOND);
        due("loose", x.loose(-1), BEYOND);
        due("one SECOND", new SixFigures().loose(1), 0);
        due("without WAYS", x.loose(60), 0);
        int z = 1;
        for (int i = 0; i < 60; i++) {
            z = z * 1103515245 + 12345;
        }
        due("a draw each", x.count(14), z);
        due("second", x.count(2), 60);
        Acts.passTo(x, 999980);
        due("loose", x.loose(20), STATE);
        due("loose", x.loose(61), BEYOND);
        due("loose", x.loose(19), 0);
        due("second", x.count(2), 999999);
        looseByDraws(false);
        looseByDraws(true);
    }

    private static void looseByDraws(boolean lost) {
        SixFigures x = new SixFigures();
        x.way(20, 0, 0);
        x.way(21, 0, 0);
        x.way(22, 0, 0);
        x.change(1, 2, lost ? 1 : 0);
        x.seed(77);
        int z = 77;
        int asked = 0;
        int lastWay = -1;
        int lastSecond = -1;
        for (int i = 0; i < 60; i++) {
            z = z * 1103515245 + 12345;
            if ((z >>> 8) % 4 == 0) {
                z = z * 1103515245 + 12345;
                int way = (z >>> 8) % 3;
                if (way != 1 || !lost) {
                    z = z * 1103515245 + 12345;
                    asked++;
                    lastWay = way;
                    lastSecond = i;
                }
            }
        }
        due("loose", x.loose(60), asked);
        due("z", x.count(14), z);
        due("codes", x.count(1), Math.min(asked, 10));
        due("way of the last", x.ofCode(x.count(1) - 1, 0), lastWay);
        due("SENT of the last", x.ofCode(x.count(1) - 1, 2), lastSecond);
    }

    private static void promise16Fetched() {
        SixFigures x = new SixFigures();
        x.way(0, 14, 0);
        due("way", x.fetched(1, 0), BEYOND);
        due("way", x.fetched(-1, 0), BEYOND);
        due("what", x.fetched(0, 2), BEYOND);
        due("what", x.fetched(0, -1), BEYOND);
        due("takes there and back", x.fetched(0, 1), 30);
        due("just in time", x.fetched(0, 0), 1);
        x.change(0, 0, 15);
        due("takes", x.fetched(0, 1), 32);
        due("expired", x.fetched(0, 0), 0);
        x.change(0, 0, 1);
        due("waits till it COMES", x.fetched(0, 1), 6);
        x.rule(4, 1);
        due("were it the newest", x.fetched(0, 0), 1);
        x.become(0, 60);
        x.change(0, 0, 60);
        due("no SLIP", x.fetched(0, 0), 1);
        x.change(0, 0, 61);
        due("a SLIP", x.fetched(0, 0), 0);
        Answers.text(x, 1, "f=61&g=6&w=1");
        due("no SLIP by the TEXT", x.fetched(0, 0), 1);
        x.enter(0);
        due("a SLIP by the TEXT", x.fetched(0, 0), 0);
        due("only thought", x.count(1), 0);
        due("only thought", x.count(14), 1);
        due("only thought", x.count(2), 2);
        x.change(0, 2, 1);
        due("LOST", x.fetched(0, 0), STATE);
        due("LOST", x.fetched(0, 1), STATE);
        due("LOST, yet BEYOND first", x.fetched(0, 2), BEYOND);
        SixFigures y = new SixFigures();
        y.way(60, 5, 0);
        y.rule(2, 1);
        y.rule(3, 10);
        y.enter(0);
        due("open as one begins", y.fetched(0, 0), 1);
        y.change(0, 0, 4);
        due("SHUT as one begins", y.fetched(0, 0), 0);
        y.pass(2);
        due("open as one begins", y.fetched(0, 0), 1);
    }

    private static void promise17HoldFor() {
        SixFigures x = new SixFigures();
        due("way", x.holdFor(0), BEYOND);
        x.way(0, 20, 0);
        due("WAY", x.holdFor(0), 42);
        x.become(0, 40);
        due("SHARED", x.holdFor(0), 84);
        x.become(0, 30);
        due("LIST", x.holdFor(0), 5);
        x.become(0, 60);
        due("SPARE", x.holdFor(0), 1);
        x.become(0, 20);
        due("CARD", x.holdFor(0), 42);
        due("HOLD stays", x.count(7), 30);
        Answers.text(x, 1, "0");
        Answers.text(x, 0, "298-m");
        x.change(0, 0, 0);
        x.become(0, 0);
        due("300", x.holdFor(0), 300);
        Answers.text(x, 0, "299");
        due("more than 300", x.holdFor(0), NONE);
        Answers.text(x, 1, "1");
        x.become(0, 20);
        due("a SLIP", x.holdFor(0), NONE);
        Answers.text(x, 1, "0");
        x.rule(2, 1);
        x.enter(0);
        due("SHUT", x.holdFor(0), NONE);
        x.change(0, 2, 1);
        due("LOST", x.holdFor(0), STATE);
        due("way", x.holdFor(1), BEYOND);
        due("way", x.holdFor(-1), BEYOND);
    }

    private static void promise18Fastest() {
        SixFigures x = new SixFigures();
        due("what", x.fastest(2), BEYOND);
        due("what", x.fastest(-1), BEYOND);
        due("none", x.fastest(0), NONE);
        x.way(20, 20, 0);
        due("expired", x.fastest(1), NONE);
        x.way(20, 9, 0);
        x.way(20, 7, 0);
        x.way(20, 7, 0);
        x.way(0, 4, 0);
        due("fewest", x.fastest(0), 4);
        due("SECONDS", x.fastest(1), 10);
        x.change(4, 2, 1);
        due("of several the least", x.fastest(0), 2);
        due("SECONDS", x.fastest(1), 16);
        x.change(2, 2, 1);
        due("fewest", x.fastest(0), 3);
        x.change(3, 2, 1);
        due("fewest", x.fastest(0), 1);
        x.change(1, 2, 1);
        due("none", x.fastest(0), NONE);
        x.change(0, 0, 1);
        due("WAY 0", x.fastest(0), 0);
        due("SECONDS", x.fastest(1), 4);
        x.change(1, 2, 0);
        due("WAY 0 is faster", x.fastest(0), 0);
    }

    private static void promise19FiguresFor() {
        SixFigures x = new SixFigures();
        x.rule(2, 1);
        due("v", x.figuresFor(0), BEYOND);
        due("v", x.figuresFor(1000000), BEYOND);
        due("v", x.figuresFor(-1), BEYOND);
        due("v", x.figuresFor(MAX), BEYOND);
        due("v", x.figuresFor(1), 1);
        due("v", x.figuresFor(10), 1);
        due("v", x.figuresFor(11), 2);
        due("v", x.figuresFor(99999), 5);
        due("v", x.figuresFor(999999), 6);
        x.rule(2, 9);
        due("v", x.figuresFor(1), 1);
        due("v", x.figuresFor(2), 2);
        due("v", x.figuresFor(111111), 6);
        due("v", x.figuresFor(111112), NONE);
        due("v", x.figuresFor(999999), NONE);
        due("FIGURES stay", x.count(6), 6);
    }

    private static void promise20Counting() {
        SixFigures x = new SixFigures();
        x.way(20, 0, 0);
        x.way(0, 0, 0);
        due("none", x.counting(), 0);
        x.ask(0);
        x.ask(1);
        x.ask(0);
        due("not there yet", x.counting(), 5);
        x.pass(3);
        due("all", x.counting(), 7);
        x.rule(4, 1);
        due("the newest", x.counting(), 4);
        x.rule(4, 0);
        x.enter(x.ofCode(0, 1));
        due("not the USED", x.counting(), 6);
        for (int i = 0; i < 7; i++) {
            x.ask(0);
        }
        due("ten", x.counting(), 1022);
        x.pass(26);
        due("expired", x.counting(), 1016);
        x.pass(5);
        due("none", x.counting(), 0);
    }

    private static void promise21Crossed() {
        SixFigures x = new SixFigures();
        Answers.text(x, 0, "50-20*s");
        x.way(0, 0, 0);
        x.ask(0);
        x.ask(0);
        due("sent at once", x.crossed(), 0);
        x.pass(1);
        x.ask(0);
        due("crossed with both", x.crossed(), 2);
        x.pass(1);
        x.ask(0);
        due("crossed with all", x.crossed(), 5);
        x.pass(48);
        x.ask(0);
        due("comes with another", x.crossed(), 5);
        SixFigures y = new SixFigures();
        y.way(9, 0, 0);
        y.way(20, 0, 0);
        y.ask(0);
        y.ask(1);
        due("SENT in the same SECOND", y.crossed(), 0);
        y.pass(1);
        y.ask(1);
        due("SENT a SECOND later", y.crossed(), 1);
    }

    private static void promise22AtOnce() {
        SixFigures x = new SixFigures();
        due("v", x.atOnce(-1, 0), BEYOND);
        due("v", x.atOnce(7, 0), BEYOND);
        due("what", x.atOnce(0, 2), BEYOND);
        due("what", x.atOnce(0, -1), BEYOND);
        due("no WAYS", x.atOnce(0, 1), 0);
        x.way(0, 0, 5);
        x.way(0, 0, 5);
        x.way(0, 0, 3);
        x.way(0, 0, 2);
        x.way(0, 0, 3);
        x.way(0, 0, 0);
        int[] many = {4, 3, 2, 2, 1, 1, 0};
        int[] sets = {45, 41, 40, 9, 8, 1, 0};
        for (int v = 0; v <= 6; v++) {
            due("how many " + v, x.atOnce(v, 0), many[v]);
            due("the set " + v, x.atOnce(v, 1), sets[v]);
        }
        x.change(0, 2, 1);
        due("LOST already", x.atOnce(3, 1), 8);
        due("LOST already", x.atOnce(5, 1), 0);
        due("only thought", x.ofWay(2, 4), 0);
        SixFigures y = new SixFigures();
        for (int place = 0; place < 6; place++) {
            y.way(0, 0, place);
        }
        due("all", y.atOnce(0, 0), 6);
        due("all", y.atOnce(0, 1), 63);
        due("all but one", y.atOnce(1, 1), 31);
    }

    private static void promise23Together() {
        SixFigures x = new SixFigures();
        due("none", x.together(), 0);
        x.way(0, 0, 5);
        x.way(0, 0, 5);
        x.way(0, 0, 0);
        due("two", x.together(), 32);
        x.way(0, 0, 0);
        x.way(0, 0, 0);
        due("more", x.together(), 33);
        x.change(0, 2, 1);
        due("one is LOST", x.together(), 1);
        x.change(2, 2, 1);
        due("two of three", x.together(), 1);
        x.change(3, 1, 1);
        due("apart", x.together(), 0);
    }

    private static void promise24WaitFor() {
        SixFigures x = new SixFigures();
        due("none", x.waitFor(), NONE);
        x.way(9, 0, 0);
        x.way(5, 0, 0);
        x.way(20, 0, 0);
        x.ask(2);
        due("there already", x.waitFor(), NONE);
        x.ask(0);
        due("one", x.waitFor(), 12);
        x.ask(1);
        due("the next", x.waitFor(), 8);
        x.pass(7);
        due("the next", x.waitFor(), 1);
        x.pass(1);
        due("the other", x.waitFor(), 4);
        x.pass(4);
        due("none", x.waitFor(), NONE);
        SixFigures y = new SixFigures();
        y.way(0, 0, 0);
        y.ask(0);
        due("the first CODE", y.waitFor(), 3);
    }

    private static void promise25Which() {
        SixFigures x = new SixFigures();
        due("sheet", x.which(-1), BEYOND);
        due("sheet", x.which(4), BEYOND);
        due("missing", x.which(0), NONE);
        x.sheet(0, 16, 3);
        due("no WAYS", x.which(0), 0);
        Answers.text(x, 0, "s+m");
        x.pass(58);
        x.way(1, 0, 0);
        x.way(11, 0, 0);
        x.way(2, 0, 0);
        x.way(20, 0, 0);
        due("CARD", x.which(0), 8);
        x.put(0, 0, 59);
        x.put(0, 1, 60);
        x.put(0, 2, 1);
        due("WAY, PHONE", x.which(0), 3);
        x.change(0, 2, 1);
        due("LOST", x.which(0), 2);
        x.put(0, 2, 2);
        due("none", x.which(0), 0);
        x.sheet(0, 32, 0);
        due("no numbers", x.which(0), 14);
        Answers.text(x, 0, "44");
        x.sheet(1, 8, 1);
        x.put(1, 0, 300);
        due("lowest bits", x.which(1), 6);
    }

    private static void promise26Guess() {
        SixFigures x = new SixFigures();
        due("part", x.guess(2), BEYOND);
        due("part", x.guess(-1), BEYOND);
        int[][] rows = {{1, 9, 9, 10}, {1, 5, 1, 2}, {2, 4, 1, 25}, {3, 8, 1, 125}, {6, 1, 1, 1000000},
            {6, 6, 3, 500000}, {5, 8, 1, 12500}};
        for (int[] row : rows) {
            x.rule(0, row[0]);
            x.rule(2, row[1]);
            due("above", x.guess(0), row[2]);
            due("below", x.guess(1), row[3]);
        }
    }

    private static void promise27Odds() {
        SixFigures x = new SixFigures();
        x.way(0, 0, 0);
        due("way", x.odds(1, 0), BEYOND);
        due("way", x.odds(-1, 0), BEYOND);
        due("part", x.odds(0, 2), BEYOND);
        due("part", x.odds(0, -1), BEYOND);
        Answers.text(x, 0, "s");
        // LATE s and 2 SECONDS: 0 to 28 are in time.
        due("above", x.odds(0, 0), 29);
        due("below", x.odds(0, 1), 60);
        x.rule(1, 31);
        due("above", x.odds(0, 0), 1);
        due("below", x.odds(0, 1), 2);
        x.rule(1, 1);
        due("0 by 1", x.odds(0, 0), 0);
        due("0 by 1", x.odds(0, 1), 1);
        x.rule(1, 300);
        due("1 by 1", x.odds(0, 0), 1);
        due("1 by 1", x.odds(0, 1), 1);
        x.pass(100);
        x.rule(2, 1);
        x.rule(3, 8);
        x.enter(0);
        // SHUT TILL 110; SECOND 60 to 119, back 0 to 59 later: from 85 on (85 and 25).
        due("above", x.odds(0, 0), 7);
        due("below", x.odds(0, 1), 12);
        Answers.text(x, 1, "1");
        due("a SLIP", x.odds(0, 0), 0);
        due("only thought", x.count(2), 102);
        x.change(0, 2, 1);
        due("LOST", x.odds(0, 0), STATE);
        due("LOST, yet BEYOND first", x.odds(0, 2), BEYOND);
    }

    private static void promise28Seed() {
        SixFigures x = new SixFigures();
        due("seed", x.seed(-1000000001), 1);
        due("no ERROR", x.seed(MIN), -1000000001);
        due("no ERROR", x.told(1), 0);
        due("seed", x.seed(MAX), MIN);
        due("z", x.count(14), MAX);
    }

    private static void promise29Voice() {
        SixFigures x = new SixFigures();
        due("way", x.voice(0, 0, 0), BEYOND);
        x.way(0, 0, 0);
        x.way(0, 0, 0);
        x.way(0, 0, 0);
        due("way", x.voice(3, 0, 0), BEYOND);
        due("way", x.voice(-1, 0, 0), BEYOND);
        due("act", x.voice(0, 4, 0), BEYOND);
        due("act", x.voice(0, -1, 0), BEYOND);
        // WAY 2 with m 5 and x 7, by KIND: sends, holds, shuts, tells.
        int[][] answers = {
            {9, 18, 2, 18 ^ 2}, {27, 54, 2, 54 ^ 2}, {9, 18 + 4, 2, 22 ^ 2}, {9, 18, -2, 18 ^ -2},
            {27, 54, 2, (54 ^ 2) - 12}, {9, 20 + 4, 2, 24 ^ 2}, {9, 18, -2 ^ 2, 18 - (18 ^ (-2 ^ 2))}};
        for (int kind = 0; kind < 7; kind++) {
            x.become(2, 10 * kind + 5);
            for (int act = 0; act < 4; act++) {
                due("KIND " + kind + " act " + act, x.voice(2, act, 7), answers[kind][act]);
            }
        }
        x.become(2, 10);
        due("goes round", x.voice(2, 0, MAX), (MAX + 2) * 3);
        x.become(2, 1);
        due("goes round", x.voice(2, 2, MIN), MAX);
        due("no ERROR", x.voice(2, 2, -1000000000), -1000000001);
        due("told", x.told(1), 5);
    }

    private static void promise30Trace() {
        SixFigures x = new SixFigures();
        x.way(0, 0, 0);
        int[][] tells = {
            {13, 11, 10, 12}, {13, 11, 20, 10, 12}, {13, 30, 11, 10, 12, 12}, {13, 11, 10, 40, 12},
            {50, 13, 11, 20, 10, 12, 20, 10}, {13, 60, 30, 11, 10, 12, 12}, {71, 11, 10, 13, 11, 10, 70, 40, 12}};
        for (int kind = 0; kind < 7; kind++) {
            x.become(0, 10 * kind);
            x.voice(0, 3, 1);
            due("how many", x.count(13), tells[kind].length);
            for (int i = 0; i < tells[kind].length; i++) {
                due("KIND " + kind + " trace " + i, x.trace(i), tells[kind][i]);
            }
            due("behind", x.trace(tells[kind].length), NONE);
        }
        due("an ERROR", x.voice(0, 4, 1), BEYOND);
        due("stays", x.trace(0), 71);
        due("ahead", x.trace(-1), NONE);
        due("far ahead", x.trace(MIN), NONE);
        due("far behind", x.trace(MAX), NONE);
        x.voice(0, 0, 1);
        due("the latest", x.trace(0), 10);
        due("the latest", x.trace(1), NONE);
    }

    private static void promise31Sheet() {
        SixFigures x = new SixFigures();
        due("sheet", x.sheet(-1, 8, 1), BEYOND);
        due("sheet", x.sheet(4, 8, 1), BEYOND);
        due("sheet ahead of n", x.sheet(4, 8, -1), BEYOND);
        due("bits", x.sheet(0, 7, 1), BEYOND);
        due("bits", x.sheet(0, -8, 1), BEYOND);
        due("bits", x.sheet(0, 64, 1), BEYOND);
        due("bits ahead of n", x.sheet(0, 9, -1), BEYOND);
        due("n", x.sheet(0, 8, -1), STATE);
        due("n", x.sheet(0, 16, MIN), STATE);
        due("n", x.sheet(0, 32, 41), BEYOND);
        due("n", x.sheet(0, 32, MAX), BEYOND);
        due("still missing", x.put(0, 0, 0), NONE);
        due("40", x.sheet(0, 8, 40), 1);
        due("put", x.put(0, 39, 1), 1);
        due("none", x.sheet(3, 32, 0), 1);
        due("put", x.put(3, 0, 1), BEYOND);
        x.way(0, 0, 3);
        x.sheet(1, 16, 1);
        x.put(1, 0, 3);
        due("judge", x.judge(1), -1);
        x.sheet(1, 16, 1);
        due("all 0", x.judge(1), 0);
        due("missing", x.sheet(1, 0, -5), 1);
        due("missing", x.judge(1), NONE);
        due("missing twice", x.sheet(1, 0, MAX), 1);
    }

    private static void promise32Put() {
        SixFigures x = new SixFigures();
        x.way(0, 0, 1);
        due("sheet", x.put(-1, 0, 0), BEYOND);
        due("sheet", x.put(4, 0, 0), BEYOND);
        due("missing", x.put(2, -1, 0), NONE);
        int[] bits = {8, 16, 32};
        int[] with = {257, 65537, 65537};
        for (int i = 0; i < 3; i++) {
            x.sheet(2, bits[i], 1);
            due("number", x.put(2, -1, 0), BEYOND);
            due("number", x.put(2, 1, 0), BEYOND);
            due("number", x.put(2, MIN, 0), BEYOND);
            due("put", x.put(2, 0, with[i]), 1);
            due("lowest bits", x.judge(2), bits[i] == 32 ? 0 : -1);
        }
        x.put(2, 0, 1);
        due("all bits", x.judge(2), -1);
    }

    private static void promise33Move() {
        SixFigures x = new SixFigures();
        x.way(0, 0, 1);
        x.way(0, 0, 1);
        x.way(0, 0, 2);
        x.sheet(0, 8, 3);
        x.sheet(1, 8, 5);
        x.sheet(2, 16, 5);
        due("sheet", x.move(-1, 0, 0, 0, 0), BEYOND);
        due("sheet", x.move(0, 0, 4, 0, 0), BEYOND);
        due("sheet ahead of missing", x.move(3, 0, 4, 0, 0), BEYOND);
        due("missing", x.move(0, 0, 3, 0, -1), NONE);
        due("missing", x.move(3, 0, 0, 0, 0), NONE);
        due("unlike, ahead of n", x.move(0, 0, 2, 0, -1), KIND);
        due("n", x.move(0, 0, 1, 0, -1), BEYOND);
        due("i", x.move(0, -1, 1, 0, 1), BEYOND);
        due("j", x.move(0, 0, 1, -1, 1), BEYOND);
        due("behind", x.move(0, 0, 1, 0, 4), BEYOND);
        due("behind", x.move(0, 1, 1, 0, 3), BEYOND);
        due("behind", x.move(1, 0, 0, 1, 3), BEYOND);
        due("behind", x.move(0, MAX, 1, 0, 1), BEYOND);
        due("behind", x.move(0, 1, 1, 1, MAX), BEYOND);
        due("behind", x.move(0, 4, 1, 0, 0), BEYOND);
        due("none at the end", x.move(0, 3, 1, 5, 0), 0);
        for (int i = 0; i < 5; i++) {
            x.put(1, i, i);
        }
        due("move", x.move(1, 1, 1, 2, 2), 2);
        due("move", x.move(1, 1, 0, 0, 3), 3);
        due("as they all were", x.judge(0), -1);
        due("the source stays", x.move(1, 1, 0, 0, 3), 3);
        due("the source stays", x.judge(0), -1);
        // 0 1 1 2 4 to 1 1 2 2 4, then the first three.
        due("downward", x.move(1, 1, 1, 0, 3), 3);
        due("move", x.move(1, 0, 0, 0, 3), 3);
        due("as they all were", x.judge(0), -1);
    }

    private static void promise34Fars() {
        SixFigures x = new SixFigures();
        due("sheet", x.fars(-1), BEYOND);
        due("sheet", x.fars(4), BEYOND);
        due("missing", x.fars(0), NONE);
        x.sheet(0, 32, 4);
        due("no WAYS", x.fars(0), 0);
        x.way(0, 11, 0);
        x.way(0, 12, 0);
        x.way(0, 13, 0);
        x.put(0, 0, 99);
        x.put(0, 1, 0);
        x.put(0, 2, -1);
        due("up to one below 0", x.fars(0), 2);
        due("FAR", x.ofWay(0, 2), 99);
        due("FAR", x.ofWay(1, 2), 0);
        due("FAR", x.ofWay(2, 2), 13);
        x.put(0, 0, 100);
        due("above 99", x.fars(0), 0);
        x.put(0, 0, 1);
        x.put(0, 1, 2);
        x.put(0, 2, 3);
        due("more than WAYS", x.fars(0), 3);
        due("FAR", x.ofWay(2, 2), 3);
        x.sheet(1, 8, 1);
        due("fewer than WAYS", x.fars(1), 1);
        due("FAR", x.ofWay(0, 2), 0);
        due("FAR", x.ofWay(1, 2), 2);
        due("no ERROR", x.told(1), 2);
    }

    private static void promise35Judge() {
        SixFigures x = new SixFigures();
        due("sheet", x.judge(-1), BEYOND);
        due("sheet", x.judge(4), BEYOND);
        due("missing", x.judge(3), NONE);
        x.sheet(3, 8, 0);
        due("none and none", x.judge(3), -1);
        x.way(0, 0, 2);
        due("one lacks", x.judge(3), 0);
        x.sheet(3, 8, 2);
        x.put(3, 0, 2);
        due("one is too many", x.judge(3), 1);
        x.way(0, 0, 0);
        due("all", x.judge(3), -1);
        x.put(3, 1, 1);
        due("the second", x.judge(3), 1);
        x.change(0, 2, 1);
        due("LOST or not", x.judge(3), 1);
        x.put(3, 0, 3);
        due("the first", x.judge(3), 0);
    }

    private static void promise36Image() {
        SixFigures x = new SixFigures();
        due("image", x.image(), 1);
        x.pass(5);
        due("image", x.image(), 2);
        x.pass(5);
        due("in place of one ahead", x.restore(), 5);
        due("not in the IMAGE", x.image(), 3);
        due("restore", x.restore(), 5);
    }

    private static void promise37Restore() {
        SixFigures x = new SixFigures();
        due("none", x.restore(), NONE);
        fill(x);
        x.sheet(0, 8, 1);
        x.image();
        int[] before = Acts.counts(x);
        int[] code = ofCodes(x);
        spoil(x);
        due("restore", x.restore(), before[2]);
        before[13] = 6;
        Answers.dueAll("counts", Acts.counts(x), before);
        Answers.dueAll("codes", ofCodes(x), code);
        due("LATE", x.law(0, 6, 0, 0), 12);
        due("SLIPS", x.law(1, 0, 5, 0), 0);
        due("SLIPS", x.law(1, 6, 5, 0), 1);
        due("KIND", x.ofWay(0, 0), 3);
        due("m", x.ofWay(0, 1), 6);
        due("FAR", x.ofWay(0, 2), 7);
        due("PLACE", x.ofWay(0, 3), 4);
        due("LOST", x.ofWay(1, 4), 1);
        due("THE TRACE stays", x.trace(0), 13);
        due("SHEETS stay", x.put(0, 1, 0), 1);
        due("told stays", x.told(2), 1);
        due("THE TAPE", x.text(0), -11);
        due("what waits", x.check(), 2);
        spoil(x);
        due("the IMAGE stays", x.restore(), before[2]);
        Answers.dueAll("counts", Acts.counts(x), before);
        Answers.dueAll("codes", ofCodes(x), code);
        due("THE TAPE", x.text(0), -11);
    }

    private static void promise37Counters() {
        SixFigures x = new SixFigures();
        x.way(20, 0, 0);
        x.image();
        x.ask(0);
        x.enter(x.ofCode(0, 1));
        x.enter(0);
        x.tell(3);
        due("restore", x.restore(), 0);
        due("CODES", x.count(1), 0);
        due("WRONG", x.count(3), 0);
        due("IN", x.count(5), 0);
        due("waiting", x.count(12), 0);
        due("z", x.count(14), 1);
        x.become(0, 3);
        x.tell(6);
        x.tell(6);
        x.image();
        x.check();
        x.tell(9);
        x.restore();
        due("what waits", x.check(), 0);
    }

    private static void fill(SixFigures x) {
        x.way(36, 7, 4);
        x.way(11, 8, 5);
        x.change(1, 2, 1);
        Answers.text(x, 0, "m*2");
        Answers.text(x, 1, "f>g");
        x.rule(0, 4);
        x.rule(1, 44);
        x.rule(2, 4);
        x.rule(3, 444);
        x.rule(4, 1);
        x.seed(99);
        for (int i = 0; i < 10; i++) {
            x.ask(0);
            x.pass(3);
        }
        x.ask(0);
        x.pass(7);
        x.enter(x.ofCode(9, 1));
        for (int i = 0; i < 5; i++) {
            x.enter(9999 - i);
        }
        Answers.feed(x, "m+f(");
        Answers.feed(x, "m");
        x.text(0);
        Answers.text(x, 0, "m*2");
        Answers.feed(x, "m(");
        x.tell(6);
        x.tell(5);
        x.voice(0, 0, 1);
    }

    private static void spoil(SixFigures x) {
        x.become(0, 25);
        x.change(0, 0, 1);
        x.change(0, 1, 1);
        x.change(1, 2, 0);
        x.way(1, 1, 1);
        Answers.text(x, 0, "k+1");
        x.text(0);
        Answers.text(x, 0, "77");
        Answers.text(x, 1, "1");
        for (int i = 0; i < 5; i++) {
            x.rule(i, 1);
        }
        x.seed(5);
        x.pass(900);
        x.rule(4, 0);
        for (int i = 0; i < 4; i++) {
            x.ask(0);
            x.enter(x.ofCode(9, 1));
        }
        x.enter(0);
        x.feed(0, 8);
        for (int i = 0; i < 9; i++) {
            x.tell(1);
        }
        x.voice(0, 3, 1);
        x.sheet(0, 8, 2);
    }

    private static int[] ofCodes(SixFigures x) {
        int[] all = new int[70];
        for (int i = 0; i < all.length; i++) {
            all[i] = x.ofCode(i / 7, i % 7);
        }
        return all;
    }

    private static void promise38Tell() {
        SixFigures x = new SixFigures();
        for (int i = 1; i <= 20; i++) {
            due("tell", x.tell(MIN + i), i);
        }
        due("tell", x.tell(0), FULL);
        due("wait", x.count(12), 20);
        x.check();
        due("tell", x.tell(0), 1);
    }

    private static void promise39Check() {
        SixFigures x = new SixFigures();
        due("none wait", x.check(), 0);
        x.tell(0);
        x.tell(0);
        due("without WAYS", x.check(), 1);
        due("none wait then", x.count(12), 0);
        due("none wait then", x.check(), 0);
        x.way(2, 0, 0);
        x.change(0, 2, 1);
        Answers.text(x, 0, "s+m");
        x.pass(57);
        for (int v : new int[] {60, 61, 2, 3}) {
            x.tell(v);
        }
        due("all are so", x.check(), 0);
        for (int v : new int[] {60, 61, 62, 3}) {
            x.tell(v);
        }
        due("the third isn't", x.check(), 3);
        x.tell(59);
        due("not now's", x.check(), 1);
        due("none wait then", x.count(12), 0);
    }

    private static void promise40Count() {
        SixFigures x = new SixFigures();
        fill(x);
        // 37 SECONDS, six entered numbers of 2 SECONDS, the fourth wrong one shuts: the fifth isn't taken.
        Answers.dueAll("count", Acts.counts(x), 2, 10, 47, 0, 491, 1, 4, 44, 4, 444, 1, 2, 2, 1, x.seed(0));
        due("what", x.count(-1), BEYOND);
        due("what", x.count(15), BEYOND);
        due("what", x.count(MIN), BEYOND);
        due("what", x.count(MAX), BEYOND);
    }

    private static void promise41Told() {
        SixFigures x = new SixFigures();
        x.ask(0);
        x.restore();
        x.restore();
        x.sheet(0, 8, -1);
        x.sheet(0, 8, -1);
        x.sheet(0, 8, -1);
        for (int i = 0; i < 24; i++) {
            x.tell(0);
        }
        x.way(0, 0, 0);
        for (int i = 0; i < 5; i++) {
            x.as(0, 1);
        }
        for (int k = 1; k <= 5; k++) {
            due("told " + k, x.told(k), k);
        }
        due("k", x.told(0), BEYOND);
        due("k", x.told(6), BEYOND);
        due("k", x.told(-1), BEYOND);
        due("k", x.told(MIN), BEYOND);
        due("k", x.told(MAX), BEYOND);
        due("counted, too", x.told(1), 6);
        due("told 5", x.told(5), 5);
    }
}
