import java.util.ArrayList;
import java.util.List;

/**
 * The document's words once more, as plainly as Java's library lets one say them: what the program's answers
 * are held against. Its ERRORS are thrown; an act that throws has changed nothing yet.
 */
final class Model {
    private static final int[] PARENT = {-1, 0, 0, 0, 1, 2, 3};

    static final class Refused extends RuntimeException {
        private static final long serialVersionUID = 1L;
        final int kind;

        Refused(int kind) {
            this.kind = kind;
        }
    }

    private record Way(int kind, int m, int far, int place, boolean lost) {
    }

    private record Code(int way, int number, int sent, int comes, int till, boolean used) {
    }

    /** All that an IMAGE keeps; every list is made anew when it changes. */
    private static final class State implements Cloneable {
        int figures = 6;
        int hold = 30;
        int tries = 3;
        int shutFor = 3600;
        int newest = 0;
        int second = 0;
        int wrong = 0;
        int shutTill = 0;
        int in = 0;
        int z = 1;
        List<Way> ways = List.of();
        List<Code> codes = List.of();
        String tape = "";
        String lateText = null;
        String slipsText = null;
        List<Integer> waiting = List.of();

        State copy() {
            try {
                return (State) clone();
            } catch (CloneNotSupportedException e) {
                throw new IllegalStateException(e);
            }
        }
    }

    private State s = new State();
    private State kept = null;
    private int images = 0;
    private final List<int[]> sheets = new ArrayList<>();
    private final int[] bits = new int[4];
    private final List<Integer> bodies = new ArrayList<>();
    private int n;
    private int m;

    Model() {
        for (int i = 0; i < 4; i++) {
            sheets.add(null);
        }
    }

    private static void need(boolean holds, int kind) {
        if (!holds) {
            throw new Refused(kind);
        }
    }

    private static boolean in(int v, int least, int most) {
        return v >= least && v <= most;
    }

    private static <T> List<T> with(List<T> row, int i, T one) {
        List<T> made = new ArrayList<>(row);
        made.set(i, one);
        return made;
    }

    private static <T> List<T> and(List<T> row, T one) {
        List<T> made = new ArrayList<>(row);
        made.add(one);
        return made;
    }

    private Way wayAt(int way) {
        need(in(way, 0, s.ways.size() - 1), 1);
        return s.ways.get(way);
    }

    public int rule(int what, int v) {
        need(in(what, 0, 4), 1);
        int was = count(6 + what);
        switch (what) {
            case 0 -> {
                need(in(v, 1, 6), 1);
                s.figures = v;
            }
            case 1 -> {
                need(in(v, 1, 300), 1);
                s.hold = v;
            }
            case 2 -> {
                need(in(v, 1, 9), 1);
                s.tries = v;
            }
            case 3 -> {
                need(in(v, 1, 9999), 1);
                s.shutFor = v;
            }
            default -> {
                need(in(v, 0, 1), 1);
                s.newest = v;
            }
        }
        return was;
    }

    public int way(int km, int far, int place) {
        need(in(km, 0, 69) && in(far, 0, 99) && in(place, 0, 5), 1);
        need(s.ways.size() < 6, 4);
        s.ways = and(s.ways, new Way(km / 10, km % 10, far, place, false));
        return s.ways.size() - 1;
    }

    public int ofWay(int way, int what) {
        Way w = wayAt(way);
        need(in(what, 0, 6), 1);
        return new int[] {w.kind, w.m, w.far, w.place, w.lost ? 1 : 0, late(w, s.second), lasts(w, s.hold)}[what];
    }

    public int change(int way, int what, int v) {
        Way w = wayAt(way);
        need(in(what, 0, 2) && in(v, 0, new int[] {99, 5, 1}[what]), 1);
        int was = ofWay(way, 2 + what);
        Way made = what == 0 ? new Way(w.kind, w.m, v, w.place, w.lost)
            : what == 1 ? new Way(w.kind, w.m, w.far, v, w.lost)
            : new Way(w.kind, w.m, w.far, w.place, v == 1);
        s.ways = with(s.ways, way, made);
        return was;
    }

    public int become(int way, int km) {
        Way w = wayAt(way);
        need(in(km, 0, 69), 1);
        s.ways = with(s.ways, way, new Way(km / 10, km % 10, w.far, w.place, w.lost));
        return w.kind;
    }

    public int as(int way, int kind) {
        Way w = wayAt(way);
        need(in(kind, 0, 6), 1);
        int k = w.kind;
        while (k >= 0 && k != kind) {
            k = PARENT[k];
        }
        need(k == kind, 5);
        return w.m;
    }

    private int late(Way w, int second) {
        int v = law(0, w.m, w.kind, second % 60);
        return switch (w.kind) {
            case 0, 1 -> v;
            case 2, 6 -> 0;
            case 3 -> v / 2;
            case 4 -> v + w.m;
            default -> 1;
        };
    }

    /** For who makes up calls: LATE of a WAY some SECONDS from now. */
    int lateOf(int way, int later) {
        return late(s.ways.get(way), s.second + later);
    }

    private static int lasts(Way w, int hold) {
        return switch (w.kind) {
            case 3 -> 10 * hold;
            case 4 -> hold / 2;
            case 6 -> 9999;
            default -> hold;
        };
    }

    public int feed(long word, int count) {
        need(in(count, 1, 8), 1);
        need(s.tape.length() + count <= 50, 4);
        long rest = word;
        for (int i = 0; i < count; i++) {
            s.tape += (char) (rest & 0xFF);
            rest >>= 8;
        }
        return s.tape.length();
    }

    public int text(int use) {
        need(in(use, 0, 1), 1);
        String text = s.tape;
        s.tape = "";
        int fault = TextOracle.fault(text, use == 0 ? "mks" : "fgw");
        if (fault >= 0) {
            return -10 - fault;
        }
        if (use == 0) {
            s.lateText = text;
        } else {
            s.slipsText = text;
        }
        return 1;
    }

    public int law(int use, int a, int b, int c) {
        need(in(use, 0, 1), 1);
        String text = use == 0 ? s.lateText : s.slipsText;
        String names = use == 0 ? "mks" : "fgw";
        int v = TextOracle.value(text != null ? text : use == 0 ? "3+m" : "f>60", names, a, b, c);
        return v < 0 ? 0 : Math.min(v, use == 0 ? 300 : 1);
    }

    private int draw() {
        s.z = (int) (s.z * 1103515245L + 12345L);
        return s.z >>> 8;
    }

    public int ask(int way) {
        Way w = wayAt(way);
        need(!w.lost, 3);
        int number = Integer.parseInt(lastFigures("000000" + draw(), s.figures));
        Code code = new Code(way, number, s.second, s.second + late(w, s.second), s.second + lasts(w, s.hold), false);
        s.codes = and(s.codes, code);
        if (s.codes.size() > 10) {
            s.codes = new ArrayList<>(s.codes.subList(1, 11));
        }
        return s.codes.size() - 1;
    }

    private static String lastFigures(String figures, int count) {
        return figures.substring(figures.length() - count);
    }

    private boolean counts(int code) {
        Code c = s.codes.get(code);
        return !c.used && c.comes <= s.second && s.second <= c.till && (s.newest == 0 || code == s.codes.size() - 1);
    }

    public int ofCode(int code, int what) {
        need(in(code, 0, s.codes.size() - 1) && in(what, 0, 6), 1);
        Code c = s.codes.get(code);
        return new int[] {c.way, c.number, c.sent, c.comes, c.till, c.used ? 1 : 0, counts(code) ? 1 : 0}[what];
    }

    public int enter(int number) {
        need(in(number, 0, 999999), 1);
        need(s.second >= s.shutTill && s.second <= 999997, 3);
        s.second += 2;
        for (int i = 0; i < s.codes.size(); i++) {
            Code c = s.codes.get(i);
            if (counts(i) && c.number == number) {
                s.codes = with(s.codes, i, new Code(c.way, c.number, c.sent, c.comes, c.till, true));
                s.in++;
                s.wrong = 0;
                return 1;
            }
        }
        s.wrong++;
        if (s.wrong >= s.tries) {
            s.shutTill = s.second + s.shutFor;
            s.wrong = 0;
        }
        return 0;
    }

    public int pass(int count) {
        need(in(count, 1, 9999), 1);
        need(s.second + count <= 999999, 3);
        s.second += count;
        return s.second;
    }

    public int loose(int count) {
        need(in(count, 1, 60), 1);
        need(s.second + count <= 999999, 3);
        int asked = 0;
        for (int i = 0; i < count; i++, s.second++) {
            if (draw() % 4 == 0 && !s.ways.isEmpty()) {
                int way = draw() % s.ways.size();
                if (!s.ways.get(way).lost) {
                    ask(way);
                    asked++;
                }
            }
        }
        return asked;
    }

    private int takes(Way w, int second) {
        int back = second + 2 * w.far;
        int comes = second + late(w, second);
        return Math.max(back, comes + w.far) + 2 - second;
    }

    private boolean getsIn(Way w, int second, int hold) {
        int done = second + takes(w, second);
        return done <= second + lasts(w, hold) && !(done - 2 < s.shutTill) && law(1, w.far, s.figures, s.wrong) == 0;
    }

    private Way wayNotLost(int way, int part) {
        Way w = wayAt(way);
        need(in(part, 0, 1), 1);
        need(!w.lost, 3);
        return w;
    }

    public int fetched(int way, int what) {
        Way w = wayNotLost(way, what);
        return what == 1 ? takes(w, s.second) : getsIn(w, s.second, s.hold) ? 1 : 0;
    }

    public int holdFor(int way) {
        Way w = wayNotLost(way, 0);
        for (int hold = 1; hold <= 300; hold++) {
            if (getsIn(w, s.second, hold)) {
                return hold;
            }
        }
        throw new Refused(2);
    }

    public int fastest(int what) {
        need(in(what, 0, 1), 1);
        Way best = null;
        for (Way w : s.ways) {
            if (!w.lost && getsIn(w, s.second, s.hold) && (best == null || takes(w, s.second) < takes(best, s.second))) {
                best = w;
            }
        }
        need(best != null, 2);
        if (what == 1) {
            return takes(best, s.second);
        }
        for (int i = 0; ; i++) {
            if (s.ways.get(i) == best) {
                return i;
            }
        }
    }

    public int figuresFor(int v) {
        need(in(v, 1, 999999), 1);
        long numbers = 1;
        for (int figures = 1; figures <= 6; figures++) {
            numbers *= 10;
            if ((long) s.tries * v <= numbers) {
                return figures;
            }
        }
        throw new Refused(2);
    }

    public int counting() {
        int set = 0;
        for (int i = s.codes.size() - 1; i >= 0; i--) {
            set = 2 * set + (counts(i) ? 1 : 0);
        }
        return set;
    }

    public int crossed() {
        int pairs = 0;
        for (Code a : s.codes) {
            for (Code b : s.codes) {
                pairs += a.sent < b.sent && a.comes > b.comes ? 1 : 0;
            }
        }
        return pairs;
    }

    public int atOnce(int v, int what) {
        need(in(v, 0, 6) && in(what, 0, 1), 1);
        for (int many = 0; ; many++) {
            for (int set = 0; set < 64; set++) {
                int lost = set;
                long left = s.ways.stream().filter(w -> !w.lost && (lost >> w.place & 1) == 0).count();
                if (Integer.bitCount(set) == many && left <= v) {
                    return what == 0 ? many : set;
                }
            }
        }
    }

    public int together() {
        int set = 0;
        for (int i = 0; i < s.ways.size(); i++) {
            for (int j = 0; j < i; j++) {
                Way a = s.ways.get(i);
                Way b = s.ways.get(j);
                set |= !a.lost && !b.lost && a.place == b.place ? 1 << a.place : 0;
            }
        }
        return set;
    }

    public int waitFor() {
        return s.codes.stream().filter(c -> !c.used && c.comes > s.second).mapToInt(c -> c.comes - s.second).min()
            .orElseThrow(() -> new Refused(2));
    }

    private int[] sheetAt(int sheet) {
        need(in(sheet, 0, 3), 1);
        need(sheets.get(sheet) != null, 2);
        return sheets.get(sheet);
    }

    public int which(int sheet) {
        int[] row = sheetAt(sheet);
        int set = 0;
        for (int way = 0; way < s.ways.size(); way++) {
            boolean can = !s.ways.get(way).lost;
            for (int i = 0; i < row.length; i++) {
                can &= row[i] == late(s.ways.get(way), s.second + i);
            }
            set += can ? 1 << way : 0;
        }
        return set;
    }

    private static int lowest(int above, int below, int part) {
        for (int divisor = above == 0 ? below : above; ; divisor--) {
            if (above % divisor == 0 && below % divisor == 0) {
                return (part == 0 ? above : below) / divisor;
            }
        }
    }

    public int guess(int part) {
        need(in(part, 0, 1), 1);
        return lowest(s.tries, Integer.parseInt("1" + "0".repeat(s.figures)), part);
    }

    public int odds(int way, int part) {
        Way w = wayNotLost(way, part);
        int good = 0;
        for (int rest = 0; rest < 60; rest++) {
            good += getsIn(w, s.second / 60 * 60 + rest, s.hold) ? 1 : 0;
        }
        return lowest(good, 60, part);
    }

    public int seed(int v) {
        int was = s.z;
        s.z = v;
        return was;
    }

    public int voice(int way, int act, int x) {
        Way w = wayAt(way);
        need(in(act, 0, 3), 1);
        bodies.clear();
        n = way;
        m = w.m;
        return speak(w.kind, w.kind, act, x);
    }

    /** The BODY of an act from a KIND on upward, for a WAY that is of the KIND own. */
    private int speak(int own, int from, int act, int x) {
        int[][] has = {{10, 11, 12, 13}, {20, 0, 0, 0}, {0, 30, 0, 0}, {0, 0, 40, 0}, {0, 0, 0, 50}, {0, 60, 0, 0},
            {0, 0, 70, 71}};
        int kind = from;
        while (has[kind][act] == 0) {
            kind = PARENT[kind];
        }
        int body = has[kind][act];
        int above = PARENT[kind];
        if (bodies.size() < 40) {
            bodies.add(body);
        }
        switch (body) {
            case 10:
                return x + n;
            case 11:
                return speak(own, own, 0, x) * 2;
            case 12:
                return x - m;
            case 13:
                return speak(own, own, 1, x) ^ speak(own, own, 2, x);
            case 20:
                return speak(own, above, 0, x) * 3;
            case 30:
                return speak(own, above, 1, x) - speak(own, own, 2, 1);
            case 40:
                return -speak(own, above, 2, x);
            case 50:
                return speak(own, above, 3, x) - speak(own, own, 0, 2);
            case 60:
                return speak(own, above, 1, x + 1);
            case 70:
                return speak(own, above, 2, x) ^ n;
            default:
                return speak(own, own, 1, x) - speak(own, above, 3, x);
        }
    }

    public int trace(int i) {
        need(in(i, 0, bodies.size() - 1), 2);
        return bodies.get(i);
    }

    public int sheet(int sheet, int width, int count) {
        need(in(sheet, 0, 3) && List.of(0, 8, 16, 32).contains(width), 1);
        if (width != 0) {
            need(count >= 0, 3);
            need(count <= 40, 1);
        }
        bits[sheet] = width;
        sheets.set(sheet, width == 0 ? null : new int[count]);
        return 1;
    }

    public int put(int sheet, int i, int v) {
        int[] row = sheetAt(sheet);
        need(in(i, 0, row.length - 1), 1);
        row[i] = v << 32 - bits[sheet] >> 32 - bits[sheet];
        return 1;
    }

    public int move(int sheet, int i, int other, int j, int count) {
        need(in(sheet, 0, 3) && in(other, 0, 3), 1);
        int[] from = sheetAt(sheet);
        int[] to = sheetAt(other);
        need(bits[sheet] == bits[other], 5);
        need(count >= 0 && i >= 0 && j >= 0, 1);
        need((long) i + count <= from.length && (long) j + count <= to.length, 1);
        int[] were = from.clone();
        for (int k = 0; k < count; k++) {
            to[j + k] = were[i + k];
        }
        return count;
    }

    public int fars(int sheet) {
        int[] row = sheetAt(sheet);
        int i = 0;
        while (i < row.length && i < s.ways.size() && in(row[i], 0, 99)) {
            change(i, 0, row[i]);
            i++;
        }
        return i;
    }

    public int judge(int sheet) {
        int[] row = sheetAt(sheet);
        for (int i = 0; i < row.length || i < s.ways.size(); i++) {
            if (i >= row.length || i >= s.ways.size() || row[i] != s.ways.get(i).place) {
                return i;
            }
        }
        return -1;
    }

    public int image() {
        kept = s.copy();
        return ++images;
    }

    public int restore() {
        need(kept != null, 2);
        s = kept.copy();
        return s.second;
    }

    public int tell(int v) {
        need(s.waiting.size() < 20, 4);
        s.waiting = and(s.waiting, v);
        return s.waiting.size();
    }

    public int check() {
        List<Integer> told = s.waiting;
        s.waiting = List.of();
        for (int i = 0; i < told.size(); i++) {
            if (s.ways.isEmpty() || told.get(i) != late(s.ways.get(0), s.second + i + 1)) {
                return i + 1;
            }
        }
        return 0;
    }

    public int count(int what) {
        need(in(what, 0, 14), 1);
        return new int[] {s.ways.size(), s.codes.size(), s.second, s.wrong, s.shutTill, s.in, s.figures, s.hold, s.tries,
            s.shutFor, s.newest, s.tape.length(), s.waiting.size(), bodies.size(), s.z}[what];
    }
}
