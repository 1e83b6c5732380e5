import com.sun.management.ThreadMXBean;
import java.lang.management.ManagementFactory;
import java.lang.reflect.Array;
import java.lang.reflect.Field;
import java.lang.reflect.Modifier;
import java.util.ArrayDeque;
import java.util.Collections;
import java.util.Deque;
import java.util.IdentityHashMap;
import java.util.Set;

/** Rule 12 of the language: what an object needs is made with it, and no call makes anything more. */
public final class RoomTest {
    private static final ThreadMXBean BEAN = (ThreadMXBean) ManagementFactory.getThreadMXBean();
    /** The calls make nothing; this is left for what the machine itself may do meanwhile. */
    private static final int MOST_BYTES = 1000;
    private static final int MOST_OBJECTS = 200;
    private static final int MOST_ELEMENTS = 150_000;

    public static void main(String[] args) throws IllegalAccessException {
        // The machine links what is called for the first time, and that is counted too: it is done here.
        use(new SwarmDesk());
        madeBytes();
        SwarmDesk desk = new SwarmDesk();
        Set<Object> before = parts(desk);
        long made = madeBytes();
        int acts = use(desk);
        made = madeBytes() - made;
        Check.yes("the clients talked", acts > 300);
        Check.yes("no array out of a call, but " + made + " bytes were made", made < MOST_BYTES);
        Check.yes("what a desk holds is made with it", before.containsAll(parts(desk)));
        Check.yes("objects of a desk: " + before.size(), before.size() < MOST_OBJECTS);
        Check.yes("elements of a desk: " + elements(before), elements(before) < MOST_ELEMENTS);
        Check.finish();
    }

    /** Every call of the face, those that want the longest rows among them; how many acts were done. */
    private static int use(SwarmDesk desk) {
        for (int i = 0; i < 301; i++) {
            desk.feed(i, 3 * i, 5 * i, 7 * i, 9 * i);
        }
        desk.digest();
        for (int i = 0; i < 60; i++) {
            desk.feed(i, -i, i * i, ~i, i << 9);
        }
        desk.make(32);
        desk.take();
        desk.load();
        desk.place();
        desk.client(0, false);
        for (int i = 0; i < 60; i++) {
            desk.feed(-i, i, i * i, ~i, i << 5);
        }
        desk.make(32);
        int acts = talk(desk);
        desk.hash();
        desk.take();
        desk.alter(0, 1);
        desk.end(9);
        desk.load();
        ask(desk);
        return acts;
    }

    private static int talk(SwarmDesk desk) {
        for (int a = 0; a < 4; a++) {
            desk.client(a, a == 0);
        }
        for (int a = 0; a < 4; a++) {
            for (int b = a + 1; b < 5; b++) {
                desk.connect(a, b);
            }
        }
        desk.hear(0);
        desk.take();
        desk.say(0);
        desk.meddle(4, 0, 0, 19);
        desk.act(0, 4);
        return desk.pump(2000);
    }

    private static void ask(SwarmDesk desk) {
        desk.out(0);
        for (int what = 0; what < 10; what++) {
            desk.torrent(what);
            desk.file(0, what);
            desk.known(0, 1, what);
            desk.count(0, what);
        }
        desk.piece(0, 0);
        desk.told(0, 1, 0);
        desk.disk(0, 0);
        desk.close(0, 1);
    }

    private static long madeBytes() {
        return BEAN.getCurrentThreadAllocatedBytes();
    }

    /** All objects and arrays that can be reached from the desk. */
    private static Set<Object> parts(Object desk) throws IllegalAccessException {
        Set<Object> seen = Collections.newSetFromMap(new IdentityHashMap<>());
        Deque<Object> next = new ArrayDeque<>();
        next.add(desk);
        while (!next.isEmpty()) {
            Object part = next.remove();
            if (!seen.add(part)) {
                continue;
            }
            if (part instanceof Object[] row) {
                for (Object each : row) {
                    if (each != null) {
                        next.add(each);
                    }
                }
            }
            for (Field field : part.getClass().getDeclaredFields()) {
                if (!field.getType().isPrimitive() && !Modifier.isStatic(field.getModifiers())) {
                    field.setAccessible(true);
                    if (field.get(part) != null) {
                        next.add(field.get(part));
                    }
                }
            }
        }
        return seen;
    }

    private static long elements(Set<Object> parts) {
        long all = 0;
        for (Object part : parts) {
            all += part.getClass().isArray() ? Array.getLength(part) : part.getClass().getDeclaredFields().length;
        }
        return all;
    }
}
