import java.lang.reflect.Array;
import java.lang.reflect.Field;
import java.lang.reflect.Modifier;
import java.util.Collections;
import java.util.IdentityHashMap;
import java.util.Set;

/** An object holds few objects and elements, all made with it: no run of calls makes it larger. */
public final class RoomTest {
    private final Set<Object> seen = Collections.newSetFromMap(new IdentityHashMap<>());
    private int elements = 0;

    public static void main(String[] args) throws IllegalAccessException {
        BatchTransfer x = new BatchTransfer();
        RoomTest fresh = held(x);
        Check.due("few objects: " + fresh.seen.size(), fresh.seen.size() <= 30, true);
        Check.due("few elements: " + fresh.elements, fresh.elements <= 60000, true);
        useTheLargest(x);
        RoomTest used = held(x);
        Check.due("objects behind the largest run", used.seen.size(), fresh.seen.size());
        Check.due("elements behind the largest run", used.elements, fresh.elements);
        fresh.seen.retainAll(used.seen);
        Check.due("the same rows", fresh.seen.size(), used.seen.size());
        Check.finish();
    }

    /** Eight files of 3000 bytes, in every mode, with a tape that is full. */
    private static void useTheLargest(BatchTransfer x) {
        for (int i = 0; i < 156; i++) {
            Check.due("feed " + i, x.feed(i, i, i, i, i), i < 155);
        }
        for (int f = 0; f < 8; f++) {
            Check.due("made " + f, x.made(3000, f), f);
        }
        for (int mode = 0; mode < 4; mode++) {
            Check.due("begin(" + mode + ")", x.begin(mode), true);
            while (x.step() != Check.NONE) {
                continue;
            }
            Check.states("mode " + mode, x, 1, 1);
        }
        Check.noByteAt(x, 8, 0);
    }

    private static RoomTest held(Object root) throws IllegalAccessException {
        RoomTest count = new RoomTest();
        count.visit(root);
        return count;
    }

    private void visit(Object o) throws IllegalAccessException {
        if (o == null || !seen.add(o)) {
            return;
        }
        if (o.getClass().isArray()) {
            visitArray(o);
            return;
        }
        for (Class<?> c = o.getClass(); c != Object.class; c = c.getSuperclass()) {
            visitFields(o, c);
        }
    }

    private void visitArray(Object o) throws IllegalAccessException {
        elements += Array.getLength(o);
        if (!o.getClass().getComponentType().isPrimitive()) {
            for (Object element : (Object[]) o) {
                visit(element);
            }
        }
    }

    private void visitFields(Object o, Class<?> c) throws IllegalAccessException {
        for (Field f : c.getDeclaredFields()) {
            if (Modifier.isStatic(f.getModifiers())) {
                continue;
            }
            elements++;
            // An enum's constants are not the object's, and the library's classes can't be looked into.
            if (!f.getType().isPrimitive() && !f.getType().isEnum()) {
                f.setAccessible(true);
                visit(f.get(o));
            }
        }
    }
}
