import java.lang.reflect.InvocationTargetException;
import java.lang.reflect.Method;
import java.util.ArrayList;
import java.util.Comparator;
import java.util.List;
import java.util.Random;

/** Runs of calls by draws, each call put to the program and to Model; all promises. */
public final class ModelTest {
    private static final int RUNS = 2500;
    private static final int CALLS = 512;
    private static final int[] ODD = {-1, 255, 256, 300, 65536, 999999, 1000000, Integer.MAX_VALUE, Integer.MIN_VALUE};

    private final Random random;
    private final TextMaker maker;
    private final SixFigures program = new SixFigures();
    private final Model model = new Model();
    private final int[] errors = new int[6];
    private final List<String> calls = new ArrayList<>();
    private String pending = "";
    private int pendingUse = 0;
    // Now and then a run begins near the last SECOND that there is.
    private final boolean late;

    private ModelTest(long seed) {
        random = new Random(seed);
        maker = new TextMaker(random);
        late = seed % 10 == 0;
    }

    public static void main(String[] args) throws Exception {
        List<Method> methods = new ArrayList<>();
        for (Method method : SixFigures.class.getDeclaredMethods()) {
            if (java.lang.reflect.Modifier.isPublic(method.getModifiers())) {
                methods.add(method);
            }
        }
        methods.sort(Comparator.comparing(Method::getName));
        Answers.due("public methods", methods.size(), 40);
        for (int run = 0; run < RUNS; run++) {
            if (!new ModelTest(run).agrees(methods)) {
                break;
            }
        }
        Answers.finish();
    }

    private boolean agrees(List<Method> methods) throws Exception {
        for (int i = 0; i < CALLS; i++) {
            Method method = next(methods, i);
            Object[] arguments = late && i < 100 ? new Object[] {i < 99 ? 9999 : 9950} : arguments(method);
            calls.add(method.getName() + java.util.Arrays.toString(arguments));
            int want = due(method, arguments);
            int got;
            try {
                got = (int) method.invoke(program, arguments);
            } catch (InvocationTargetException e) {
                e.getCause().printStackTrace(System.out);
                Answers.due(String.join("\n", calls) + " threw", 0, 1);
                return false;
            }
            if (got != want) {
                Answers.due(String.join("\n", calls), got, want);
                return false;
            }
            Answers.due(method.getName(), got, want);
        }
        return true;
    }

    private int due(Method method, Object[] arguments) throws Exception {
        if (method.getName().equals("told")) {
            int k = (int) arguments[0];
            return k >= 1 && k <= 5 ? errors[k] : refused(1);
        }
        try {
            return (int) Model.class.getMethod(method.getName(), method.getParameterTypes()).invoke(model, arguments);
        } catch (InvocationTargetException e) {
            if (e.getCause() instanceof Model.Refused refused) {
                return refused(refused.kind);
            }
            throw e;
        }
    }

    private int refused(int kind) {
        errors[kind]++;
        return -1000000000 - kind;
    }

    /** Ways and sheets first, most often; a text that is being fed is fed on; the rest by draws. */
    private Method next(List<Method> methods, int i) {
        if (late && i < 100) {
            return named(methods, "pass");
        }
        if (i % 100 < 5 && random.nextInt(8) != 0) {
            return named(methods, i % 100 < 3 ? "way" : "sheet");
        }
        if (!pending.isEmpty() && random.nextInt(12) != 0) {
            return named(methods, "feed");
        }
        if (model.count(11) > 0 && random.nextInt(3) != 0) {
            return named(methods, "text");
        }
        String[] often = {"ask", "ask", "enter", "pass", "ofCode", "ofWay", "fetched", "put", "tell"};
        if (random.nextInt(3) == 0) {
            return named(methods, often[random.nextInt(often.length)]);
        }
        return methods.get(random.nextInt(methods.size()));
    }

    private static Method named(List<Method> methods, String name) {
        for (Method method : methods) {
            if (method.getName().equals(name)) {
                return method;
            }
        }
        throw new IllegalStateException(name);
    }

    private Object[] arguments(Method method) {
        if (method.getName().equals("feed")) {
            return feeding();
        }
        Class<?>[] types = method.getParameterTypes();
        Object[] arguments = new Object[types.length];
        for (int i = 0; i < types.length; i++) {
            boolean odd = random.nextInt(40) == 0;
            arguments[i] = odd ? ODD[random.nextInt(ODD.length)] : argument(method.getName(), i, arguments);
        }
        return arguments;
    }

    private Object[] feeding() {
        if (pending.isEmpty()) {
            pendingUse = random.nextInt(2);
            pending = maker.make(pendingUse == 0 ? "mks" : "fgw");
        }
        int n = Math.min(1 + random.nextInt(8), Math.max(1, pending.length()));
        long word = random.nextLong();
        for (int i = n - 1; i >= 0; i--) {
            word = word << 8 | (i < pending.length() ? pending.charAt(i) : random.nextInt(256));
        }
        pending = pending.substring(Math.min(n, pending.length()));
        return new Object[] {word, random.nextInt(60) == 0 ? random.nextInt(12) - 1 : n};
    }

    private int upTo(int most) {
        return random.nextInt(12) == 0 ? random.nextInt(most + 3) - 1 : random.nextInt(most + 1);
    }

    private int argument(String name, int i, Object[] arguments) {
        int way = upTo(Math.max(0, model.count(0) - 1));
        int[] late = {late(random.nextInt(3)), upTo(9), upTo(99)};
        int any = late[random.nextInt(3)];
        switch (name + i) {
            case "rule1":
                int[] most = {6, 300, 9, random.nextInt(3) == 0 ? 9999 : 60, 1};
                int what = (int) arguments[0];
                return upTo(what >= 0 && what <= 4 ? most[what] : 9);
            case "rule0", "change1":
                return upTo(name.equals("rule") ? 4 : 2);
            case "way0", "become1":
                return upTo(69);
            case "way1":
                return upTo(random.nextInt(3) == 0 ? 99 : 12);
            case "way2", "atOnce0":
                return upTo(5);
            case "ofWay1", "ofCode1", "as1":
                return upTo(6);
            case "ofCode0":
                return upTo(Math.max(0, model.count(1) - 1));
            case "enter0":
                return model.count(1) > 0 && random.nextInt(4) != 0 ? model.ofCode(random.nextInt(model.count(1)), 1)
                    : upTo(999999);
            case "pass0":
                return upTo(random.nextInt(4) == 0 ? 9999 : 20);
            case "loose0":
                return upTo(60);
            case "figuresFor0":
                return upTo(random.nextBoolean() ? 999999 : 2000);
            case "text0":
                return random.nextInt(12) == 0 ? upTo(1) : pendingUse;
            case "law0", "fetched1", "fastest0", "atOnce1", "guess0", "odds1":
                return upTo(1);
            case "sheet1":
                return random.nextInt(20) == 0 ? upTo(64) : new int[] {0, 8, 8, 8, 8, 16, 16, 32, 32}[random.nextInt(9)];
            case "sheet2":
                return upTo(random.nextInt(4) == 0 ? 40 : 4);
            case "sheet0", "which0", "put0", "move0", "move2", "fars0", "judge0":
                return upTo(random.nextInt(5) == 0 ? 3 : 1);
            case "put1", "move1", "move3", "move4":
                return upTo(random.nextInt(3));
            case "put2", "tell0":
                return random.nextInt(3) == 0 ? any : name.equals("put") ? putting(arguments) : telling();
            case "voice1":
                return upTo(3);
            case "voice2", "seed0":
                return random.nextInt();
            case "count0":
                return upTo(14);
            case "told0":
                return upTo(5);
            case "trace0":
                return upTo(8);
            default:
                return name.equals("law") ? upTo(100) : way;
        }
    }

    private int late(int way) {
        return way < model.count(0) ? model.ofWay(way, 5) : way;
    }

    /** A number that makes which() or judge() tell something. */
    private int putting(Object[] arguments) {
        int i = (int) arguments[1];
        if (random.nextBoolean()) {
            return i >= 0 && i < model.count(0) ? model.ofWay(i, 3) : 0;
        }
        return lateOfLater(random.nextInt(3), i);
    }

    /** A number that makes check() tell something. */
    private int telling() {
        return lateOfLater(0, model.count(12) + 1);
    }

    private int lateOfLater(int way, int later) {
        if (way >= model.count(0) || later < 0 || later > 99) {
            return 0;
        }
        return model.lateOf(way, later);
    }
}
