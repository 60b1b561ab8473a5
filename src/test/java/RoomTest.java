import java.lang.reflect.Array;
import java.lang.reflect.Field;
import java.lang.reflect.Modifier;
import java.util.ArrayDeque;
import java.util.Collections;
import java.util.Deque;
import java.util.IdentityHashMap;
import java.util.Random;
import java.util.Set;

/**
 * All calls of a run share one room of some 600000 objects and arrays with 7.3 million fields and
 * elements in all. An object must be small in it, and hold the same parts after all its calls as when it
 * was made; that no call makes a part that is thrown away is seen in the source by LanguageTest.
 */
public final class RoomTest {
    private static final int CALLS = 512;
    /** So small that a thousand objects take no more than a quarter of the room. */
    private static final int MOST_OBJECTS = 150, MOST_FIELDS = 1825;

    private static int wrong = 0;

    /** Everything that can be reached from an object. */
    private static final class Parts {
        final Set<Object> objects = Collections.newSetFromMap(new IdentityHashMap<>());
        int fields = 0;
        private final Deque<Object> open = new ArrayDeque<>();

        Parts(Object root) throws IllegalAccessException {
            reach(root);
            while (!open.isEmpty()) {
                Object part = open.remove();
                if (part.getClass().isArray()) {
                    elementsOf(part);
                } else {
                    fieldsOf(part);
                }
            }
        }

        private void reach(Object part) {
            if (part != null && objects.add(part)) {
                open.add(part);
            }
        }

        private void elementsOf(Object array) {
            fields += Array.getLength(array);
            for (int k = 0; k < Array.getLength(array) && array instanceof Object[]; k++) {
                reach(Array.get(array, k));
            }
        }

        private void fieldsOf(Object part) throws IllegalAccessException {
            for (Field field : part.getClass().getDeclaredFields()) {
                if (Modifier.isStatic(field.getModifiers())) {
                    continue;
                }
                fields++;
                field.setAccessible(true);
                if (!field.getType().isPrimitive()) {
                    reach(field.get(part));
                }
            }
        }
    }

    private static void due(String what, boolean holds) {
        if (!holds) {
            wrong++;
            System.out.println(what);
        }
    }

    private static int[] arguments(Random lot) {
        int[] a = new int[5];
        for (int k = 0; k < a.length; k++) {
            a[k] = lot.nextInt(9) == 0 ? lot.nextInt() : lot.nextInt(5);
        }
        return a;
    }

    public static void main(String[] args) throws IllegalAccessException {
        for (int run = 0; run < 20; run++) {
            Random lot = new Random(run);
            RaisedTableaux x = new RaisedTableaux();
            Parts first = new Parts(x);
            for (int call = 0; call < CALLS; call++) {
                Calls.answer(x, Calls.NAMES[lot.nextInt(Calls.NAMES.length)], arguments(lot), lot.nextLong());
            }
            Parts then = new Parts(x);
            due("an object has " + first.objects.size() + " parts", first.objects.size() <= MOST_OBJECTS);
            due("an object has " + first.fields + " fields and elements", first.fields <= MOST_FIELDS);
            due("run " + run + ": a call has made a part that is held", first.objects.containsAll(then.objects));
            due("run " + run + ": there are more fields than at first", then.fields == first.fields);
            if (run == 0) {
                System.out.println("an object: " + first.objects.size() + " objects and arrays, " + first.fields
                        + " fields and elements");
            }
        }
        System.out.println(wrong == 0 ? "the room that is taken is as due" : wrong + " things are not as due");
        if (wrong != 0) {
            System.exit(1);
        }
    }
}
