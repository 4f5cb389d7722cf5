import java.lang.reflect.InvocationTargetException;
import java.lang.reflect.Method;
import java.lang.reflect.Modifier;
import java.util.ArrayList;
import java.util.Comparator;
import java.util.List;
import java.util.Random;

/**
 * Rule 7 of LANGUAGE.md: no call throws, for any arguments in any state, also behind an object's 512th call, where
 * its answers are free. Two objects with the same calls answer the same (rule 13).
 */
public final class NoThrowTest {
    private static final int RUNS = 200;
    private static final int CALLS = 3000;
    private static final int[] EDGES = {Integer.MIN_VALUE, Integer.MIN_VALUE + 1, -1000000001, -65537, -257, -129, -1, 0, 1,
        2, 3, 4, 5, 6, 7, 8, 9, 10, 16, 20, 32, 39, 40, 41, 50, 60, 61, 69, 70, 99, 100, 255, 300, 301, 9999, 10000,
        65536, 999999, 1000000, Integer.MAX_VALUE - 1, Integer.MAX_VALUE};
    private static final String BYTES = "mksfgw0123456789|&<=>+-*/%!()";

    private NoThrowTest() {
    }

    public static void main(String[] args) throws IllegalAccessException {
        List<Method> methods = new ArrayList<>();
        for (Method method : SixFigures.class.getDeclaredMethods()) {
            if (Modifier.isPublic(method.getModifiers())) {
                methods.add(method);
            }
        }
        methods.sort(Comparator.comparing(Method::getName));
        for (int run = 0; run < RUNS; run++) {
            run(methods, new Random(run));
        }
        Answers.finish();
    }

    private static void run(List<Method> methods, Random random) throws IllegalAccessException {
        SixFigures one = new SixFigures();
        SixFigures other = new SixFigures();
        for (int i = 0; i < CALLS; i++) {
            Method method = methods.get(random.nextInt(methods.size()));
            Class<?>[] types = method.getParameterTypes();
            Object[] arguments = new Object[types.length];
            for (int j = 0; j < types.length; j++) {
                if (types[j] == long.class) {
                    arguments[j] = bytes(random);
                } else {
                    arguments[j] = edge(random);
                }
            }
            try {
                Answers.due(method.getName(), (int) method.invoke(one, arguments), (int) method.invoke(other, arguments));
            } catch (InvocationTargetException e) {
                Answers.due(method.getName() + " threw " + e.getCause(), 1, 0);
                return;
            }
        }
    }

    /** Small numbers most often, so that the calls come to something. */
    private static int edge(Random random) {
        int kind = random.nextInt(8);
        if (kind == 0) {
            return random.nextInt();
        }
        return kind < 4 ? EDGES[random.nextInt(EDGES.length)] : random.nextInt(8);
    }

    private static long bytes(Random random) {
        long word = random.nextLong();
        for (int i = 0; i < 8 && random.nextInt(20) != 0; i++) {
            word = word << 8 | BYTES.charAt(random.nextInt(BYTES.length()));
        }
        return word;
    }
}
