import java.lang.reflect.Array;
import java.lang.reflect.Field;
import java.lang.reflect.Modifier;
import java.util.ArrayDeque;
import java.util.Deque;
import java.util.IdentityHashMap;
import java.util.List;
import java.util.Map;

/** Rule 12 of LANGUAGE.md: rows are made once and used again, so an object grows up to ten states and no further. */
public final class RoomTest {
    private static final Due T = new Due();
    private static final int MOST_OBJECTS = 250;
    private static final int MOST_ELEMENTS = 2000;

    /** How many objects and arrays are reached, and how many fields and elements they have. */
    private record Room(int objects, int elements) { }

    public static void main(String[] args) throws IllegalAccessException {
        GyroTrainer x = new GyroTrainer();
        grow(x);
        Room grown = room(x);
        System.out.println(grown.objects + " objects and arrays, " + grown.elements + " fields and elements");
        for (int i = 0; i < 11; i++) {
            workOn(x);
        }
        Room later = room(x);
        T.due("objects and arrays behind many calls", later.objects, grown.objects);
        T.due("fields and elements behind many calls", later.elements, grown.elements);
        T.due("at most " + MOST_OBJECTS + " objects and arrays", Math.max(grown.objects, MOST_OBJECTS), MOST_OBJECTS);
        T.due("at most " + MOST_ELEMENTS + " fields and elements", Math.max(grown.elements, MOST_ELEMENTS),
            MOST_ELEMENTS);
        T.end();
    }

    /** Fills the history and both slots. */
    private static void grow(GyroTrainer x) {
        for (int i = 0; i < 7; i++) {
            x.start(i, i);
        }
        x.save(0);
        x.save(1);
    }

    private static void workOn(GyroTrainer x) {
        x.set(GyroTrainer.WAIT, 0);
        x.steer(100, 20);
        x.place(50);
        x.start(100000, 0);
        x.pass(600);
        x.damp(1);
        x.correct(1, 2);
        x.put(0x633176326d33L);
        x.fault();
        x.load();
        x.put(0x63L);
        for (int i = 0; i < 9; i++) {
            x.line(i);
            x.leg(i, i, 30);
            x.observe(0);
        }
        x.guess(5);
        x.wipe();
        x.calmIn(0, 500);
        x.bestLevel(0, 100);
        x.save(0);
        x.undo();
        x.restore(1);
        x.forgetSwings();
    }

    private static Room room(Object first) throws IllegalAccessException {
        Map<Object, Boolean> reached = new IdentityHashMap<>();
        Deque<Object> open = new ArrayDeque<>(List.of(first));
        int elements = 0;
        while (!open.isEmpty()) {
            Object object = open.pop();
            if (reached.put(object, true) == null) {
                elements += object.getClass().isArray() ? elements(object, open) : fields(object, open);
            }
        }
        return new Room(reached.size(), elements);
    }

    private static int elements(Object array, Deque<Object> open) {
        if (!array.getClass().getComponentType().isPrimitive()) {
            for (Object element : (Object[]) array) {
                if (element != null) {
                    open.push(element);
                }
            }
        }
        return Array.getLength(array);
    }

    private static int fields(Object object, Deque<Object> open) throws IllegalAccessException {
        int count = 0;
        for (Field field : object.getClass().getDeclaredFields()) {
            if (Modifier.isStatic(field.getModifiers())) {
                continue;
            }
            count++;
            field.setAccessible(true);
            Object value = field.get(object);
            if (!field.getType().isPrimitive() && value != null) {
                open.push(value);
            }
        }
        return count;
    }
}
