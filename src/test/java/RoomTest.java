import java.lang.reflect.Array;
import java.lang.reflect.Field;
import java.lang.reflect.Modifier;
import java.util.ArrayDeque;
import java.util.Collections;
import java.util.Deque;
import java.util.IdentityHashMap;
import java.util.Set;

/** LANGUAGE.md, rule 12: what an object holds is small, and only a new job makes it hold more. */
public final class RoomTest {
    private static final int MOST_OBJECTS = 150;
    private static final int MOST_PARTS = 12000;

    public static void main(String[] args) throws IllegalAccessException {
        MachineLoop x = new MachineLoop(20000);
        for (int i = 0; i < 20; i++) {
            Check.job(x, "");
        }
        long[] before = held(x);
        Check.same("objects and arrays of 20 jobs are few", before[0] <= MOST_OBJECTS, true);
        Check.same("fields and elements of 20 jobs are few", before[1] <= MOST_PARTS, true);
        useAll(x);
        long[] after = held(x);
        Check.same("objects and arrays behind all calls", after[0], before[0]);
        Check.same("fields and elements behind all calls", after[1], before[1]);
        Check.end();
    }

    private static void useAll(MachineLoop x) {
        Check.addTo(x, 0, "9tt{1p} 4t{5ms} 120D12R 91o4t{d7w}11f");
        Check.addTo(x, 1, "9ttttt{01oc}");
        Check.addTo(x, 2, "1{1{1{1{!}}}}");
        Check.same("run()", x.run(), 20);
        for (int name = 0; name < 10; name++) {
            x.file(name, 1);
        }
        for (int i = 0; i < 100; i++) {
            int handle = 1 + i % 7;
            x.write(handle, (byte) i);
            x.filter(handle, 1 + i % 3);
            x.define(i % 4, i % 10, i);
        }
        for (int handle = 1; handle <= 7; handle++) {
            x.close(handle);
        }
        Check.same("a job more", x.job(), -4);
    }

    /** The objects and arrays that this one holds, and their fields and elements. */
    private static long[] held(Object first) throws IllegalAccessException {
        Set<Object> seen = Collections.newSetFromMap(new IdentityHashMap<>());
        Deque<Object> open = new ArrayDeque<>();
        open.add(first);
        long parts = 0;
        while (!open.isEmpty()) {
            Object next = open.remove();
            if (seen.add(next)) {
                parts += next.getClass().isArray() ? elements(next, open) : fields(next, open);
            }
        }
        return new long[] {seen.size(), parts};
    }

    private static long elements(Object array, Deque<Object> open) {
        int length = Array.getLength(array);
        for (int i = 0; i < length && !array.getClass().getComponentType().isPrimitive(); i++) {
            addTo(open, Array.get(array, i));
        }
        return length;
    }

    private static long fields(Object holder, Deque<Object> open) throws IllegalAccessException {
        long count = 0;
        for (Field f : holder.getClass().getDeclaredFields()) {
            if (!Modifier.isStatic(f.getModifiers())) {
                count++;
                if (!f.getType().isPrimitive()) {
                    f.setAccessible(true);
                    addTo(open, f.get(holder));
                }
            }
        }
        return count;
    }

    private static void addTo(Deque<Object> open, Object part) {
        if (part != null) {
            open.add(part);
        }
    }
}
