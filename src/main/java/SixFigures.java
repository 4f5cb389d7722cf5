/**
 * A door that takes codes of figures, the ways to have such codes, and what would be if one fetched them.
 * The words in capitals are those of the document (DOC.md).
 */
public final class SixFigures {
    private static final int LOW = -1000000000;
    private static final int NO_ERROR = 0;
    private static final int BEYOND = 1;
    private static final int NONE = 2;
    private static final int STATE = 3;
    private static final int FULL = 4;
    private static final int KIND = 5;
    private static final int ERROR_KINDS = 5;

    // The rules of THE DOOR, as rule() numbers them.
    private static final int FIGURES = 0;
    private static final int HOLD = 1;
    private static final int TRIES = 2;
    private static final int SHUT_FOR = 3;
    private static final int NEWEST = 4;
    private static final int[] RULE_LEAST = {1, 1, 1, 1, 0};
    private static final int[] RULE_MOST = {6, 300, 9, 9999, 1};

    // What is kept of a WAY, as ofWay() numbers it.
    private static final int KIND_OF = 0;
    private static final int M = 1;
    private static final int FAR = 2;
    private static final int PLACE = 3;
    private static final int LOST = 4;
    private static final int WAY_VALUES = 5;
    private static final int LATE_NOW = 5;
    private static final int LASTS = 6;

    // What is kept of a CODE, as ofCode() numbers it.
    private static final int BY = 0;
    private static final int NUMBER = 1;
    private static final int SENT = 2;
    private static final int COMES = 3;
    private static final int HOLDS_TILL = 4;
    private static final int USED = 5;
    private static final int CODE_VALUES = 6;
    private static final int COUNTS = 6;

    // For each KIND, the KIND above it.
    private static final int[] ABOVE = {-1, 0, 0, 0, 1, 2, 3};

    private static final int MOST_WAYS = 6;
    private static final int MOST_KM = 69;
    private static final int MOST_FAR = 99;
    private static final int PLACES = 6;
    private static final int MOST_CODES = 10;
    private static final int LAST_SECOND = 999999;
    private static final int MOST_NUMBER = 999999;
    private static final int ENTERING_TAKES = 2;
    private static final int MINUTE = 60;

    // The USES of TEXTS.
    private static final int USES = 2;
    private static final int LATE = 0;
    private static final int SLIPS = 1;
    private static final String LATE_NAMES = "mks";
    private static final String SLIPS_NAMES = "fgw";
    private static final int MOST_LATE = 300;
    private static final int MOST_SLIPS = 1;
    private static final int TAPE_SIZE = 50;
    private static final int MOST_OPEN = 5;
    private static final int MOST_DIGITS = 4;

    // Levels of the grammar of TEXTS, the loosest first.
    private static final int NO_LEVEL = -1;
    private static final int ANY = 0;
    private static final int ALL = 1;
    private static final int COMPARED = 2;
    private static final int SUM = 3;
    private static final int PRODUCT = 4;
    private static final int OPERAND = 5;

    private static final int SHEETS = 4;
    private static final int SHEET_SIZE = 40;
    private static final int TRACE_SIZE = 40;
    private static final int MOST_WAITING = 20;

    private final Book book = new Book();
    // Made by the first image(), so that an object without an IMAGE stays small.
    private Book kept = null;
    private int images = 0;
    private final int[] errors = new int[ERROR_KINDS + 1];
    private final Way[] kinds = {
        new Way(), new Phone(), new Card(), new CodeList(), new Shared(), new Grid(), new Spare()
    };
    private final Reader reader = new Reader();
    private final int[] stack = new int[TAPE_SIZE];
    private final Trace bodies = new Trace();
    private final int[][] sheets = new int[SHEETS][SHEET_SIZE];
    private final int[] sheetBits = new int[SHEETS];
    private final int[] sheetSizes = new int[SHEETS];

    public SixFigures() {
    }

    // ---- the door, ways

    public int rule(int what, int v) {
        if (what < FIGURES || what > NEWEST || v < RULE_LEAST[what] || v > RULE_MOST[what]) {
            return error(BEYOND);
        }
        int was = book.door[what];
        book.door[what] = v;
        return was;
    }

    public int way(int km, int far, int place) {
        if (!within(km, MOST_KM) || !within(far, MOST_FAR) || !isPlace(place)) {
            return error(BEYOND);
        }
        if (book.wayCount >= MOST_WAYS) {
            return error(FULL);
        }
        int number = book.wayCount;
        int[] made = book.ways[number];
        made[KIND_OF] = km / 10;
        made[M] = km % 10;
        made[FAR] = far;
        made[PLACE] = place;
        made[LOST] = 0;
        book.wayCount++;
        return number;
    }

    public int ofWay(int way, int what) {
        if (!isWay(way) || !within(what, LASTS)) {
            return error(BEYOND);
        }
        if (what == LATE_NOW) {
            return lateAt(way, book.second);
        }
        if (what == LASTS) {
            return lastsWith(way, book.door[HOLD]);
        }
        return book.ways[way][what];
    }

    public int change(int way, int what, int v) {
        if (!isWay(way) || !within(what, LOST - FAR) || !within(v, mostOf(FAR + what))) {
            return error(BEYOND);
        }
        int was = book.ways[way][FAR + what];
        book.ways[way][FAR + what] = v;
        return was;
    }

    public int become(int way, int km) {
        if (!isWay(way) || !within(km, MOST_KM)) {
            return error(BEYOND);
        }
        int was = book.ways[way][KIND_OF];
        book.ways[way][KIND_OF] = km / 10;
        book.ways[way][M] = km % 10;
        return was;
    }

    public int as(int way, int kind) {
        if (!isWay(way) || !within(kind, ABOVE.length - 1)) {
            return error(BEYOND);
        }
        if (!isUnder(book.ways[way][KIND_OF], kind)) {
            return error(KIND);
        }
        return book.ways[way][M];
    }

    private static boolean within(int v, int most) {
        return v >= 0 && v <= most;
    }

    private boolean isWay(int way) {
        return way >= 0 && way < book.wayCount;
    }

    private static boolean isPlace(int place) {
        return within(place, PLACES - 1);
    }

    private static int mostOf(int wayValue) {
        if (wayValue == FAR) {
            return MOST_FAR;
        }
        return wayValue == PLACE ? PLACES - 1 : 1;
    }

    private static boolean isUnder(int kind, int above) {
        int at = kind;
        for (int i = 0; i < ABOVE.length && at >= 0 && at < ABOVE.length; i++) {
            if (at == above) {
                return true;
            }
            at = ABOVE[at];
        }
        return false;
    }

    private boolean isLost(int way) {
        return book.ways[way][LOST] != 0;
    }

    private int lateAt(int way, int second) {
        int kind = book.ways[way][KIND_OF];
        int m = book.ways[way][M];
        return kinds[kind].late(gives(LATE, m, kind, second % MINUTE), m);
    }

    private int lastsWith(int way, int hold) {
        return kinds[book.ways[way][KIND_OF]].lasts(hold);
    }

    private int error(int kind) {
        errors[kind]++;
        return LOW - kind;
    }

    // ---- texts

    public int feed(long word, int n) {
        if (n < 1 || n > 8) {
            return error(BEYOND);
        }
        if (book.tapeSize + n > TAPE_SIZE) {
            return error(FULL);
        }
        for (int i = 0; i < n; i++) {
            book.tape[book.tapeSize] = (int) (word >>> (8 * i)) & 255;
            book.tapeSize++;
        }
        return book.tapeSize;
    }

    public int text(int use) {
        if (!within(use, USES - 1)) {
            return error(BEYOND);
        }
        boolean isText = reader.reads(book.tape, book.tapeSize, use == LATE ? LATE_NAMES : SLIPS_NAMES);
        book.tapeSize = 0;
        if (!isText) {
            return -10 - reader.at;
        }
        book.texts[use].copyFrom(reader.read);
        return 1;
    }

    public int law(int use, int a, int b, int c) {
        return within(use, USES - 1) ? gives(use, a, b, c) : error(BEYOND);
    }

    private int gives(int use, int a, int b, int c) {
        Text text = book.texts[use];
        int v = text.size > 0 ? text.workedOut(stack, a, b, c) : withoutText(use, a);
        return Math.max(0, Math.min(v, use == LATE ? MOST_LATE : MOST_SLIPS));
    }

    private static int withoutText(int use, int a) {
        if (use == LATE) {
            return 3 + a;
        }
        return a > 60 ? 1 : 0;
    }

    // ---- codes, seconds

    public int ask(int way) {
        int refused = refusalOfAsking(way);
        if (refused != NO_ERROR) {
            return error(refused);
        }
        return send(way);
    }

    public int ofCode(int code, int what) {
        if (code < 0 || code >= book.codeCount || !within(what, COUNTS)) {
            return error(BEYOND);
        }
        if (what == COUNTS) {
            return isCounting(code) ? 1 : 0;
        }
        return book.codes[code][what];
    }

    public int enter(int number) {
        if (!within(number, MOST_NUMBER)) {
            return error(BEYOND);
        }
        if (book.second < book.shutTill || book.second + ENTERING_TAKES > LAST_SECOND) {
            return error(STATE);
        }
        book.second += ENTERING_TAKES;
        int code = codeThatOpens(number);
        if (code >= 0) {
            book.codes[code][USED] = 1;
            book.in++;
            book.wrong = 0;
            return 1;
        }
        book.wrong++;
        if (book.wrong >= book.door[TRIES]) {
            book.shutTill = book.second + book.door[SHUT_FOR];
            book.wrong = 0;
        }
        return 0;
    }

    public int pass(int n) {
        if (n < 1 || n > 9999) {
            return error(BEYOND);
        }
        if (book.second + n > LAST_SECOND) {
            return error(STATE);
        }
        book.second += n;
        return book.second;
    }

    public int loose(int n) {
        if (n < 1 || n > 60) {
            return error(BEYOND);
        }
        if (book.second + n > LAST_SECOND) {
            return error(STATE);
        }
        int asked = 0;
        for (int i = 0; i < n; i++) {
            if (asksByDraws()) {
                asked++;
            }
            book.second++;
        }
        return asked;
    }

    private boolean asksByDraws() {
        int first = draw();
        if (book.wayCount <= 0 || first % 4 != 0) {
            return false;
        }
        int way = draw() % book.wayCount;
        if (isLost(way)) {
            return false;
        }
        send(way);
        return true;
    }

    private int refusalOfAsking(int way) {
        if (!isWay(way)) {
            return BEYOND;
        }
        return isLost(way) ? STATE : NO_ERROR;
    }

    private int draw() {
        book.z = book.z * 1103515245 + 12345;
        return book.z >>> 8;
    }

    private int send(int way) {
        int[] code = book.roomForCode();
        code[BY] = way;
        code[NUMBER] = draw() % tens(book.door[FIGURES]);
        code[SENT] = book.second;
        code[COMES] = book.second + lateAt(way, book.second);
        code[HOLDS_TILL] = book.second + lastsWith(way, book.door[HOLD]);
        code[USED] = 0;
        return book.codeCount - 1;
    }

    private static int tens(int figures) {
        int product = 1;
        for (int i = 0; i < figures; i++) {
            product *= 10;
        }
        return product;
    }

    private boolean isCounting(int number) {
        int[] code = book.codes[number];
        return code[USED] == 0 && book.second >= code[COMES] && book.second <= code[HOLDS_TILL]
            && (book.door[NEWEST] == 0 || number == book.codeCount - 1);
    }

    private int codeThatOpens(int number) {
        for (int i = 0; i < book.codeCount; i++) {
            if (book.codes[i][NUMBER] == number && isCounting(i)) {
                return i;
            }
        }
        return -1;
    }

    // ---- what would be

    public int fetched(int way, int what) {
        int refused = within(what, 1) ? refusalOfAsking(way) : BEYOND;
        if (refused != NO_ERROR) {
            return error(refused);
        }
        if (what == 1) {
            return secondsToEnter(way, book.second);
        }
        return getsIn(way, book.second) ? 1 : 0;
    }

    public int holdFor(int way) {
        int refused = refusalOfAsking(way);
        if (refused != NO_ERROR) {
            return error(refused);
        }
        int takes = secondsToEnter(way, book.second);
        if (isEntered(way, book.second + takes)) {
            for (int hold = RULE_LEAST[HOLD]; hold <= RULE_MOST[HOLD]; hold++) {
                if (takes <= lastsWith(way, hold)) {
                    return hold;
                }
            }
        }
        return error(NONE);
    }

    public int fastest(int what) {
        if (!within(what, 1)) {
            return error(BEYOND);
        }
        int best = -1;
        int fewest = 0;
        for (int way = 0; way < book.wayCount; way++) {
            if (!isLost(way) && getsIn(way, book.second)) {
                int takes = secondsToEnter(way, book.second);
                if (best < 0 || takes < fewest) {
                    best = way;
                    fewest = takes;
                }
            }
        }
        if (best < 0) {
            return error(NONE);
        }
        return what == 0 ? best : fewest;
    }

    public int figuresFor(int v) {
        if (v < 1 || v > 999999) {
            return error(BEYOND);
        }
        for (int figures = RULE_LEAST[FIGURES]; figures <= RULE_MOST[FIGURES]; figures++) {
            if (book.door[TRIES] * v <= tens(figures)) {
                return figures;
            }
        }
        return error(NONE);
    }

    public int counting() {
        int set = 0;
        for (int i = 0; i < book.codeCount; i++) {
            if (isCounting(i)) {
                set |= 1 << i;
            }
        }
        return set;
    }

    public int crossed() {
        int pairs = 0;
        for (int i = 0; i < book.codeCount; i++) {
            for (int j = 0; j < book.codeCount; j++) {
                if (book.codes[i][SENT] < book.codes[j][SENT] && book.codes[i][COMES] > book.codes[j][COMES]) {
                    pairs++;
                }
            }
        }
        return pairs;
    }

    public int atOnce(int v, int what) {
        if (!within(v, MOST_WAYS) || !within(what, 1)) {
            return error(BEYOND);
        }
        // With all PLACES lost nothing is left, so all of them are a set to begin with.
        int best = (1 << PLACES) - 1;
        for (int set = 0; set < 1 << PLACES; set++) {
            if (Integer.bitCount(set) < Integer.bitCount(best) && leftWithout(set) <= v) {
                best = set;
            }
        }
        return what == 0 ? Integer.bitCount(best) : best;
    }

    public int together() {
        int set = 0;
        for (int place = 0; place < PLACES; place++) {
            if (waysAt(place) >= 2) {
                set |= 1 << place;
            }
        }
        return set;
    }

    public int waitFor() {
        int least = -1;
        for (int i = 0; i < book.codeCount; i++) {
            int[] code = book.codes[i];
            int wait = code[COMES] - book.second;
            if (code[USED] == 0 && wait > 0 && (least < 0 || wait < least)) {
                least = wait;
            }
        }
        return least < 0 ? error(NONE) : least;
    }

    public int which(int sheet) {
        int refused = refusalOfSheet(sheet);
        if (refused != NO_ERROR) {
            return error(refused);
        }
        int set = 0;
        for (int way = 0; way < book.wayCount; way++) {
            if (!isLost(way) && tellsLateOf(sheet, way)) {
                set |= 1 << way;
            }
        }
        return set;
    }

    public int guess(int part) {
        if (!within(part, 1)) {
            return error(BEYOND);
        }
        return partOfFraction(book.door[TRIES], tens(book.door[FIGURES]), part);
    }

    public int odds(int way, int part) {
        int refused = within(part, 1) ? refusalOfAsking(way) : BEYOND;
        if (refused != NO_ERROR) {
            return error(refused);
        }
        int minute = book.second - book.second % MINUTE;
        int good = 0;
        for (int i = 0; i < MINUTE; i++) {
            if (getsIn(way, minute + i)) {
                good++;
            }
        }
        return partOfFraction(good, MINUTE, part);
    }

    /** The SECONDS from asking at a SECOND till the CODE has been entered. */
    private int secondsToEnter(int way, int second) {
        int far = book.ways[way][FAR];
        return Math.max(far + far, lateAt(way, second) + far) + ENTERING_TAKES;
    }

    /** Whether the number is taken in rightly: the open door and the sure hand, whatever the CODE's age. */
    private boolean isEntered(int way, int secondBehind) {
        return secondBehind - ENTERING_TAKES >= book.shutTill
            && gives(SLIPS, book.ways[way][FAR], book.door[FIGURES], book.wrong) == 0;
    }

    private boolean getsIn(int way, int second) {
        int takes = secondsToEnter(way, second);
        return takes <= lastsWith(way, book.door[HOLD]) && isEntered(way, second + takes);
    }

    private int leftWithout(int places) {
        int left = 0;
        for (int place = 0; place < PLACES; place++) {
            if ((places >> place & 1) == 0) {
                left += waysAt(place);
            }
        }
        return left;
    }

    /** How many WAYS lie at a PLACE that aren't LOST. */
    private int waysAt(int place) {
        int ways = 0;
        for (int way = 0; way < book.wayCount; way++) {
            if (!isLost(way) && book.ways[way][PLACE] == place) {
                ways++;
            }
        }
        return ways;
    }

    private boolean tellsLateOf(int sheet, int way) {
        for (int i = 0; i < sheetSizes[sheet]; i++) {
            if (sheets[sheet][i] != lateAt(way, book.second + i)) {
                return false;
            }
        }
        return true;
    }

    private static int partOfFraction(int above, int below, int part) {
        int divisor = below;
        int rest = above;
        // Numbers up to a million take Euclid some thirty steps.
        for (int i = 0; i < 64 && rest != 0; i++) {
            int next = divisor % rest;
            divisor = rest;
            rest = next;
        }
        int whole = part == 0 ? above : below;
        return divisor == 0 ? whole : whole / divisor;
    }

    // ---- draws, voices, sheets, images, what is told

    public int seed(int v) {
        int was = book.z;
        book.z = v;
        return was;
    }

    public int voice(int way, int act, int x) {
        if (!isWay(way) || !within(act, 3)) {
            return error(BEYOND);
        }
        bodies.begin(way, book.ways[way][M]);
        Way kind = kinds[book.ways[way][KIND_OF]];
        switch (act) {
            case 0:
                return kind.sends(bodies, x);
            case 1:
                return kind.holds(bodies, x);
            case 2:
                return kind.shuts(bodies, x);
            default:
                return kind.tells(bodies, x);
        }
    }

    public int trace(int i) {
        return i >= 0 && i < bodies.size ? bodies.numbers[i] : error(NONE);
    }

    public int sheet(int sheet, int bits, int n) {
        if (!isSheet(sheet) || bits != 0 && bits != 8 && bits != 16 && bits != 32) {
            return error(BEYOND);
        }
        if (bits != 0 && n < 0) {
            return error(STATE);
        }
        if (bits != 0 && n > SHEET_SIZE) {
            return error(BEYOND);
        }
        sheetBits[sheet] = bits;
        sheetSizes[sheet] = bits == 0 ? 0 : n;
        for (int i = 0; i < SHEET_SIZE; i++) {
            sheets[sheet][i] = 0;
        }
        return 1;
    }

    public int put(int sheet, int i, int v) {
        int refused = refusalOfSheet(sheet);
        if (refused != NO_ERROR) {
            return error(refused);
        }
        if (i < 0 || i >= sheetSizes[sheet]) {
            return error(BEYOND);
        }
        sheets[sheet][i] = lowestBits(v, sheetBits[sheet]);
        return 1;
    }

    public int move(int sheet, int i, int other, int j, int n) {
        if (!isSheet(sheet) || !isSheet(other)) {
            return error(BEYOND);
        }
        if (isMissing(sheet) || isMissing(other)) {
            return error(NONE);
        }
        if (sheetBits[sheet] != sheetBits[other]) {
            return error(KIND);
        }
        if (!standThere(sheet, i, n) || !standThere(other, j, n)) {
            return error(BEYOND);
        }
        System.arraycopy(sheets[sheet], i, sheets[other], j, n);
        return n;
    }

    public int fars(int sheet) {
        int refused = refusalOfSheet(sheet);
        if (refused != NO_ERROR) {
            return error(refused);
        }
        int most = Math.min(sheetSizes[sheet], book.wayCount);
        for (int i = 0; i < most; i++) {
            if (!within(sheets[sheet][i], MOST_FAR)) {
                return i;
            }
            book.ways[i][FAR] = sheets[sheet][i];
        }
        return most;
    }

    public int judge(int sheet) {
        int refused = refusalOfSheet(sheet);
        if (refused != NO_ERROR) {
            return error(refused);
        }
        int most = Math.min(sheetSizes[sheet], book.wayCount);
        for (int i = 0; i < most; i++) {
            if (sheets[sheet][i] != book.ways[i][PLACE]) {
                return i;
            }
        }
        return sheetSizes[sheet] == book.wayCount ? -1 : most;
    }

    public int image() {
        if (kept == null) {
            kept = new Book();
        }
        kept.copyFrom(book);
        images++;
        return images;
    }

    public int restore() {
        if (kept == null) {
            return error(NONE);
        }
        book.copyFrom(kept);
        return book.second;
    }

    public int tell(int v) {
        if (book.waitingCount >= MOST_WAITING) {
            return error(FULL);
        }
        book.waiting[book.waitingCount] = v;
        book.waitingCount++;
        return book.waitingCount;
    }

    public int check() {
        int told = book.waitingCount;
        book.waitingCount = 0;
        for (int i = 0; i < told; i++) {
            if (book.wayCount == 0 || book.waiting[i] != lateAt(0, book.second + 1 + i)) {
                return 1 + i;
            }
        }
        return 0;
    }

    public int count(int what) {
        switch (what) {
            case 0:
                return book.wayCount;
            case 1:
                return book.codeCount;
            case 2:
                return book.second;
            case 3:
                return book.wrong;
            case 4:
                return book.shutTill;
            case 5:
                return book.in;
            case 6:
            case 7:
            case 8:
            case 9:
            case 10:
                return book.door[what - 6];
            case 11:
                return book.tapeSize;
            case 12:
                return book.waitingCount;
            case 13:
                return bodies.size;
            case 14:
                return book.z;
            default:
                return error(BEYOND);
        }
    }

    public int told(int k) {
        return k >= 1 && k <= ERROR_KINDS ? errors[k] : error(BEYOND);
    }

    private static boolean isSheet(int sheet) {
        return within(sheet, SHEETS - 1);
    }

    private boolean isMissing(int sheet) {
        return sheetBits[sheet] == 0;
    }

    private int refusalOfSheet(int sheet) {
        if (!isSheet(sheet)) {
            return BEYOND;
        }
        return isMissing(sheet) ? NONE : NO_ERROR;
    }

    /** Numbers of 8 and 16 bits have a sign, as Java's own have. */
    private static int lowestBits(int v, int bits) {
        if (bits == 8) {
            return (byte) v;
        }
        return bits == 16 ? (short) v : v;
    }

    private boolean standThere(int sheet, int from, int n) {
        return n >= 0 && from >= 0 && n <= sheetSizes[sheet] && from <= sheetSizes[sheet] - n;
    }

    /** All that an IMAGE keeps. */
    private static final class Book {
        final int[] door = {6, 30, 3, 3600, 0};
        int second = 0;
        int wrong = 0;
        int shutTill = 0;
        int in = 0;
        int z = 1;
        final int[][] ways = new int[MOST_WAYS][WAY_VALUES];
        int wayCount = 0;
        final int[][] codes = new int[MOST_CODES][CODE_VALUES];
        int codeCount = 0;
        final int[] tape = new int[TAPE_SIZE];
        int tapeSize = 0;
        final Text[] texts = {new Text(), new Text()};
        final int[] waiting = new int[MOST_WAITING];
        int waitingCount = 0;

        /** The row for one more CODE, behind all others; the oldest one's, if there are as many as may be. */
        int[] roomForCode() {
            if (codeCount < MOST_CODES) {
                codeCount++;
                return codes[codeCount - 1];
            }
            int[] oldest = codes[0];
            for (int i = 1; i < MOST_CODES; i++) {
                codes[i - 1] = codes[i];
            }
            codes[MOST_CODES - 1] = oldest;
            return oldest;
        }

        void copyFrom(Book other) {
            copyRow(other.door, door);
            second = other.second;
            wrong = other.wrong;
            shutTill = other.shutTill;
            in = other.in;
            z = other.z;
            for (int i = 0; i < MOST_WAYS; i++) {
                copyRow(other.ways[i], ways[i]);
            }
            wayCount = other.wayCount;
            for (int i = 0; i < MOST_CODES; i++) {
                copyRow(other.codes[i], codes[i]);
            }
            codeCount = other.codeCount;
            copyRow(other.tape, tape);
            tapeSize = other.tapeSize;
            for (int i = 0; i < USES; i++) {
                texts[i].copyFrom(other.texts[i]);
            }
            copyRow(other.waiting, waiting);
            waitingCount = other.waitingCount;
        }

        private static void copyRow(int[] from, int[] to) {
            System.arraycopy(from, 0, to, 0, Math.min(from.length, to.length));
        }
    }

    /**
     * A TEXT as steps behind one another: 0 and more puts a number, -1, -2, -3 put what the NAMES stand for,
     * less than that joins what was put last, by the sign with that number. Without steps there is no TEXT.
     */
    private static final class Text {
        final int[] steps = new int[TAPE_SIZE];
        int size = 0;

        void add(int step) {
            if (size < TAPE_SIZE) {
                steps[size] = step;
                size++;
            }
        }

        void copyFrom(Text other) {
            System.arraycopy(other.steps, 0, steps, 0, TAPE_SIZE);
            size = other.size;
        }

        int workedOut(int[] stack, int a, int b, int c) {
            int top = 0;
            for (int i = 0; i < size; i++) {
                int step = steps[i];
                if (step >= -3) {
                    if (top < stack.length) {
                        stack[top] = valueOf(step, a, b, c);
                        top++;
                    }
                } else if (step == -'!') {
                    if (top >= 1) {
                        stack[top - 1] = stack[top - 1] == 0 ? 1 : 0;
                    }
                } else if (top >= 2) {
                    top--;
                    stack[top - 1] = joined(-step, stack[top - 1], stack[top]);
                }
            }
            return top > 0 ? stack[0] : 0;
        }

        private static int valueOf(int step, int a, int b, int c) {
            switch (step) {
                case -1:
                    return a;
                case -2:
                    return b;
                case -3:
                    return c;
                default:
                    return step;
            }
        }

        private static int joined(int sign, int left, int right) {
            switch (sign) {
                case '|':
                    return left != 0 || right != 0 ? 1 : 0;
                case '&':
                    return left != 0 && right != 0 ? 1 : 0;
                case '<':
                    return left < right ? 1 : 0;
                case '=':
                    return left == right ? 1 : 0;
                case '>':
                    return left > right ? 1 : 0;
                case '+':
                    return left + right;
                case '-':
                    return left - right;
                case '*':
                    return left * right;
                case '/':
                    return right == 0 ? 0 : left / right;
                default:
                    return right == 0 ? 0 : left % right;
            }
        }
    }

    /**
     * Reads TEXTS from THE TAPE. It goes past a byte only if some TEXT goes on with it: so it stands at the
     * FAULT, when it has halted.
     */
    private static final class Reader {
        final int[] bytes = new int[TAPE_SIZE];
        final Text read = new Text();
        int at = 0;
        int end = 0;
        String names = "";

        boolean reads(int[] tape, int tapeSize, String namesOfUse) {
            System.arraycopy(tape, 0, bytes, 0, Math.min(tape.length, bytes.length));
            at = 0;
            end = Math.min(tapeSize, bytes.length);
            names = namesOfUse;
            read.size = 0;
            return readLevel(ANY, 0) && at == end;
        }

        private boolean readLevel(int level, int open) {
            if (level >= OPERAND) {
                return readOperand(open);
            }
            if (!readLevel(level + 1, open)) {
                return false;
            }
            // A comparison joins just two.
            int most = level == COMPARED ? 1 : TAPE_SIZE;
            for (int i = 0; i < most && levelOf(next()) == level; i++) {
                int sign = next();
                at++;
                if (!readLevel(level + 1, open)) {
                    return false;
                }
                read.add(-sign);
            }
            return true;
        }

        private boolean readOperand(int open) {
            int sign = next();
            if (isDigit(sign)) {
                readNumber();
                return true;
            }
            if (sign == '!' || sign == '(') {
                return open < MOST_OPEN && (sign == '!' ? readNot(open + 1) : readBracket(open + 1));
            }
            int name = sign < 0 ? -1 : names.indexOf((char) sign);
            if (name < 0) {
                return false;
            }
            at++;
            read.add(-1 - name);
            return true;
        }

        private void readNumber() {
            int number = 0;
            for (int i = 0; i < MOST_DIGITS && isDigit(next()); i++) {
                number = number * 10 + next() - '0';
                at++;
            }
            read.add(number);
        }

        private boolean readNot(int open) {
            at++;
            if (!readOperand(open)) {
                return false;
            }
            read.add(-'!');
            return true;
        }

        private boolean readBracket(int open) {
            at++;
            if (!readLevel(ANY, open) || next() != ')') {
                return false;
            }
            at++;
            return true;
        }

        /** The byte that it stands at; -1 at the end. */
        private int next() {
            return at >= 0 && at < end ? bytes[at] : -1;
        }

        private static boolean isDigit(int sign) {
            return sign >= '0' && sign <= '9';
        }

        private static int levelOf(int sign) {
            switch (sign) {
                case '|':
                    return ANY;
                case '&':
                    return ALL;
                case '<':
                case '=':
                case '>':
                    return COMPARED;
                case '+':
                case '-':
                    return SUM;
                case '*':
                case '/':
                case '%':
                    return PRODUCT;
                default:
                    return NO_LEVEL;
            }
        }
    }

    /** THE TRACE, and of the WAY that speaks its number and m. */
    private static final class Trace {
        final int[] numbers = new int[TRACE_SIZE];
        int size = 0;
        int n = 0;
        int m = 0;

        void begin(int way, int mOfWay) {
            size = 0;
            n = way;
            m = mOfWay;
        }

        void add(int body) {
            if (size < TRACE_SIZE) {
                numbers[size] = body;
                size++;
            }
        }
    }

    /**
     * The KIND WAY, above all others: how late its CODES are, how long they last, and its VOICES.
     * The KINDS under it have the same methods anew, where the document gives them words of their own.
     */
    private static class Way {
        int late(int v, int m) {
            return v;
        }

        int lasts(int hold) {
            return hold;
        }

        int sends(Trace bodies, int x) {
            bodies.add(10);
            return x + bodies.n;
        }

        int holds(Trace bodies, int x) {
            bodies.add(11);
            return sends(bodies, x) * 2;
        }

        int shuts(Trace bodies, int x) {
            bodies.add(12);
            return x - bodies.m;
        }

        int tells(Trace bodies, int x) {
            bodies.add(13);
            return holds(bodies, x) ^ shuts(bodies, x);
        }
    }

    private static class Phone extends Way {
        int sends(Trace bodies, int x) {
            bodies.add(20);
            return super.sends(bodies, x) * 3;
        }
    }

    private static class Card extends Way {
        int late(int v, int m) {
            return 0;
        }

        int holds(Trace bodies, int x) {
            bodies.add(30);
            return super.holds(bodies, x) - shuts(bodies, 1);
        }
    }

    private static class CodeList extends Way {
        int late(int v, int m) {
            return v / 2;
        }

        int lasts(int hold) {
            return 10 * hold;
        }

        int shuts(Trace bodies, int x) {
            bodies.add(40);
            return -super.shuts(bodies, x);
        }
    }

    private static final class Shared extends Phone {
        int late(int v, int m) {
            return super.late(v, m) + m;
        }

        int lasts(int hold) {
            return super.lasts(hold) / 2;
        }

        int tells(Trace bodies, int x) {
            bodies.add(50);
            return super.tells(bodies, x) - sends(bodies, 2);
        }
    }

    private static final class Grid extends Card {
        int late(int v, int m) {
            return super.late(v, m) + 1;
        }

        int holds(Trace bodies, int x) {
            bodies.add(60);
            return super.holds(bodies, x + 1);
        }
    }

    private static final class Spare extends CodeList {
        int late(int v, int m) {
            return 0;
        }

        int lasts(int hold) {
            return 9999;
        }

        int shuts(Trace bodies, int x) {
            bodies.add(70);
            return super.shuts(bodies, x) ^ bodies.n;
        }

        int tells(Trace bodies, int x) {
            bodies.add(71);
            return holds(bodies, x) - super.tells(bodies, x);
        }
    }
}
