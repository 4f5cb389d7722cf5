import java.lang.reflect.Array;
import java.lang.reflect.Field;
import java.lang.reflect.Modifier;
import java.util.ArrayDeque;
import java.util.Collections;
import java.util.Deque;
import java.util.IdentityHashMap;
import java.util.Set;

/**
 * The room that all calls of a run share, 600,000 objects and arrays with 7.3 million fields and elements: what one
 * object holds, new and behind calls that fill it. That calls make nothing else is seen by SourceTest.
 */
public final class RoomTest {
    private static final int MOST_OBJECTS = 90;
    private static final int MOST_ELEMENTS = 1200;

    private int objects = 0;
    private int elements = 0;

    private RoomTest() {
    }

    public static void main(String[] args) throws IllegalAccessException {
        SixFigures x = new SixFigures();
        RoomTest fresh = count(x);
        Acts.fill(x);
        RoomTest filled = count(x);
        for (int i = 0; i < 100; i++) {
            x.image();
            x.restore();
            Acts.feed(x, "!(m+1)|s");
            x.text(0);
            x.voice(0, 3, i);
        }
        RoomTest later = count(x);
        Answers.due("objects: one Book more by image(), no others", filled.objects, later.objects);
        Answers.due("elements: one Book more by image(), no others", filled.elements, later.elements);
        Answers.due("a new object is smaller: " + fresh.objects, fresh.objects < filled.objects ? 1 : 0, 1);
        Answers.due("objects: " + later.objects, later.objects <= MOST_OBJECTS ? 1 : 0, 1);
        Answers.due("fields and elements: " + later.elements, later.elements <= MOST_ELEMENTS ? 1 : 0, 1);
        Answers.finish();
    }

    /** All that can be reached from an object, texts that are constants left out. */
    private static RoomTest count(Object from) throws IllegalAccessException {
        RoomTest room = new RoomTest();
        Set<Object> seen = Collections.newSetFromMap(new IdentityHashMap<>());
        Deque<Object> open = new ArrayDeque<>();
        open.add(from);
        seen.add(from);
        while (!open.isEmpty()) {
            Object one = open.remove();
            room.objects++;
            if (one.getClass().isArray()) {
                room.countArray(one, seen, open);
            } else {
                room.countFields(one, seen, open);
            }
        }
        return room;
    }

    private void countArray(Object row, Set<Object> seen, Deque<Object> open) {
        elements += Array.getLength(row);
        if (!row.getClass().getComponentType().isPrimitive()) {
            for (int i = 0; i < Array.getLength(row); i++) {
                add(Array.get(row, i), seen, open);
            }
        }
    }

    private void countFields(Object one, Set<Object> seen, Deque<Object> open) throws IllegalAccessException {
        for (Class<?> type = one.getClass(); type != null; type = type.getSuperclass()) {
            for (Field field : type.getDeclaredFields()) {
                if (!Modifier.isStatic(field.getModifiers())) {
                    elements++;
                    if (!field.getType().isPrimitive()) {
                        field.setAccessible(true);
                        add(field.get(one), seen, open);
                    }
                }
            }
        }
    }

    private static void add(Object one, Set<Object> seen, Deque<Object> open) {
        if (one != null && !(one instanceof String) && seen.add(one)) {
            open.add(one);
        }
    }
}
