import java.lang.reflect.Array;
import java.lang.reflect.Field;
import java.lang.reflect.Modifier;
import java.util.ArrayDeque;
import java.util.Collections;
import java.util.Deque;
import java.util.IdentityHashMap;
import java.util.Set;

/**
 * All calls of a run share one room of 600,000 objects and 7.3 million fields and elements: even
 * 512 new stores fit, and a store makes all that it needs when it is made.
 */
public final class RoomTest {
    private static final long STORES = 512;

    private long objects;
    private long places;
    private final Set<Object> seen = Collections.newSetFromMap(new IdentityHashMap<>());

    private RoomTest() {
    }

    public static void main(String[] args) throws IllegalAccessException {
        Checks checks = new Checks();
        SavepointStore store = new SavepointStore();
        RoomTest fresh = new RoomTest();
        fresh.count(store);
        System.out.println(fresh.objects + " objects with " + fresh.places + " fields and elements");
        checks.holds("the objects fit", fresh.objects * STORES < 600_000);
        checks.holds("the fields and elements fit", fresh.places * STORES < 7_300_000);

        for (int session = 0; session < 3; session++) {
            store.begin(session);
            for (int i = 0; i < 12; i++) {
                store.write(session, 5 * session, i);
                store.savepoint(session, 0);
            }
        }
        Checks.perform(store, "0uh;0ua;0c;0b");
        store.save();
        store.restore();
        store.undo();
        RoomTest used = new RoomTest();
        used.count(store);
        checks.due("the objects of a used store", used.objects, fresh.objects);
        checks.due("the fields and elements of a used store", used.places, fresh.places);
        checks.end();
    }

    private void count(Object root) throws IllegalAccessException {
        Deque<Object> open = new ArrayDeque<>();
        add(open, root);
        while (!open.isEmpty()) {
            Object object = open.remove();
            objects++;
            if (object.getClass().isArray()) {
                countArray(open, object);
            } else {
                countFields(open, object);
            }
        }
    }

    private void add(Deque<Object> open, Object object) {
        if (object != null && seen.add(object)) {
            open.add(object);
        }
    }

    private void countArray(Deque<Object> open, Object array) {
        int length = Array.getLength(array);
        places += length;
        if (!array.getClass().getComponentType().isPrimitive()) {
            for (int i = 0; i < length; i++) {
                add(open, Array.get(array, i));
            }
        }
    }

    private void countFields(Deque<Object> open, Object object) throws IllegalAccessException {
        for (Field field : object.getClass().getDeclaredFields()) {
            if (Modifier.isStatic(field.getModifiers())) {
                continue;
            }
            places++;
            if (!field.getType().isPrimitive()) {
                field.setAccessible(true);
                add(open, field.get(object));
            }
        }
    }
}
