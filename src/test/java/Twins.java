import java.lang.reflect.Method;
import java.util.ArrayList;
import java.util.List;
import java.util.function.Consumer;

/**
 * Two objects made by the same calls. One of them gets one call more, then both are asked for all that they hold:
 * so it shows whether that call changed anything. An object has just 512 calls, so there is a pair for each view.
 */
final class Twins {
    private final String name;
    private final Consumer<SixFigures> made;

    Twins(String name, Consumer<SixFigures> made) {
        this.name = name;
        this.made = made;
    }

    /** That calls answer an ERROR, each on an object of its own, and change nothing but what told() tells. */
    void refuse(int error, String... calls) throws ReflectiveOperationException {
        for (String call : calls) {
            changesNothing(call, error);
        }
    }

    /** That a call changes nothing and answers what is due; just if that is an ERROR, told() tells one more. */
    void changesNothing(String call, int want) throws ReflectiveOperationException {
        String on = call + " on " + name;
        for (View view : View.values()) {
            SixFigures one = new SixFigures();
            SixFigures other = new SixFigures();
            made.accept(one);
            made.accept(other);
            Answers.due(on, answer(one, call), want);
            for (int k = 1; k <= 5; k++) {
                int more = want == -1000000000 - k ? 1 : 0;
                Answers.due(on + ", told(" + k + ")", one.told(k), other.told(k) + more);
            }
            compare(on, view, one, other);
        }
    }

    /** All that an IMAGE keeps, and THE TRACE, as two objects show it. */
    static void alike(String what, SixFigures one, SixFigures other) {
        compare(what, View.STATE, one, other);
    }

    private static void compare(String what, View view, SixFigures one, SixFigures other) {
        List<Integer> seen = view.of(one);
        List<Integer> due = view.of(other);
        Answers.due(what + ", how much is seen", seen.size(), due.size());
        for (int i = 0; i < Math.min(seen.size(), due.size()); i++) {
            Answers.due(what + ", what " + view + " shows at " + i, seen.get(i), due.get(i));
        }
    }

    /** The answer to a call, written as in Java; MIN and MAX stand for the least and the greatest int. */
    private static int answer(SixFigures x, String call) throws ReflectiveOperationException {
        String[] words = call.replace("MIN", "-2147483648").replace("MAX", "2147483647").split("[(), ]+");
        for (Method method : SixFigures.class.getDeclaredMethods()) {
            Class<?>[] types = method.getParameterTypes();
            if (method.getName().equals(words[0]) && types.length == words.length - 1) {
                Object[] arguments = new Object[types.length];
                for (int i = 0; i < types.length; i++) {
                    long value = Long.parseLong(words[i + 1]);
                    if (types[i] == long.class) {
                        arguments[i] = value;
                    } else {
                        arguments[i] = Math.toIntExact(value);
                    }
                }
                return (int) method.invoke(x, arguments);
            }
        }
        throw new IllegalArgumentException(call);
    }

    /** What can be asked of an object. */
    private enum View {
        STATE, SHEETS, IMAGE;

        List<Integer> of(SixFigures x) {
            List<Integer> seen = new ArrayList<>();
            switch (this) {
                case STATE -> state(x, seen);
                case SHEETS -> sheets(x, seen);
                default -> {
                    seen.add(x.restore());
                    state(x, seen);
                    seen.add(x.image());
                }
            }
            return seen;
        }

        private static void state(SixFigures x, List<Integer> seen) {
            for (int what = 0; what <= 14; what++) {
                seen.add(x.count(what));
            }
            int ways = seen.get(seen.size() - 15);
            int codes = seen.get(seen.size() - 14);
            for (int i = 0; i < 7 * ways; i++) {
                seen.add(x.ofWay(i / 7, i % 7));
            }
            for (int i = 0; i < 7 * codes; i++) {
                seen.add(x.ofCode(i / 7, i % 7));
            }
            for (int i = 0; i < 10; i++) {
                seen.add(x.trace(i));
            }
            laws(x, seen);
            seen.add(x.check());
            // What THE TAPE holds is seen by the TEXT that it is.
            seen.add(x.text(0));
            laws(x, seen);
        }

        private static void laws(SixFigures x, List<Integer> seen) {
            for (int i = 0; i < 4; i++) {
                seen.add(x.law(0, 7 * i, i, 50 - i));
                seen.add(x.law(1, 31 * i, 6 - i, i));
            }
        }

        /** Numbers of SHEETS are seen as FAR of WAYS, six at a time. */
        private static void sheets(SixFigures x, List<Integer> seen) {
            for (int i = 0; i < 6; i++) {
                x.way(0, 0, 0);
            }
            for (int sheet = 0; sheet <= 3; sheet++) {
                for (int other = 0; other <= 3; other++) {
                    seen.add(x.move(sheet, 0, other, 0, 0));
                }
                for (int from = 0; from <= 36 && x.move(sheet, from, sheet, 0, 1) == 1; from += 6) {
                    seen.add(x.move(sheet, from, sheet, 0, Math.min(6, 40 - from)));
                    seen.add(x.fars(sheet));
                    for (int way = 0; way < 6; way++) {
                        seen.add(x.ofWay(way, 2));
                    }
                }
                seen.add(x.put(sheet, 5, 0));
                seen.add(x.put(sheet, 6, 0));
                seen.add(x.put(sheet, 39, 0));
            }
        }
    }
}
