import java.lang.management.ManagementFactory;
import java.lang.reflect.Array;
import java.lang.reflect.Field;
import java.lang.reflect.Modifier;
import java.util.ArrayDeque;
import java.util.Collections;
import java.util.IdentityHashMap;
import java.util.Set;

/** Calls make no objects: what a run needs is made with the yard, and that is little. */
public final class RoomTest {
    private static final com.sun.management.ThreadMXBean THREADS =
        (com.sun.management.ThreadMXBean) ManagementFactory.getThreadMXBean();

    private static int answers = 0;

    public static void main(String[] args) throws IllegalAccessException {
        String text = "yard 9" + ";conker 30 1 20".repeat(8) + ";cracked 0 1";
        String rule = "hit striker*struck+hard-swing+cracks*score if [not [armour<0] and blow>0] or gaps=1;hit worth";
        ConkerYard x = Due.with(text, rule, rule, rule, rule);
        x.force(0);
        for (int i = 0; i < 10; i++) {
            x.note(55 + i % 6, i % 8, 1);
        }
        dear(x);
        long before = allocated();
        dear(x);
        long made = allocated() - before;
        Due.holds("bytes that dear calls made: " + made, made < 4096);
        before = allocated();
        ConkerYard one = new ConkerYard();
        made = allocated() - before;
        Due.holds("bytes that a new object made: " + made, made < 100000 && one.count(0) == 0);
        Due.holds("answers", answers != 0);
        count(x);
        Due.close("RoomTest");
    }

    /** The room is told in objects and in fields and elements: a yard that was used takes a small part of either. */
    private static void count(ConkerYard yard) throws IllegalAccessException {
        Set<Object> seen = Collections.newSetFromMap(new IdentityHashMap<>());
        ArrayDeque<Object> open = new ArrayDeque<>();
        open.add(yard);
        int parts = 0;
        while (!open.isEmpty()) {
            Object one = open.remove();
            if (seen.add(one)) {
                parts += one.getClass().isArray() ? elements(one, open) : fields(one, open);
            }
        }
        Due.holds("objects and arrays of a yard: " + seen.size(), seen.size() <= 300);
        Due.holds("fields and elements of a yard: " + parts, parts <= 10000);
    }

    private static int elements(Object array, ArrayDeque<Object> open) {
        int length = Array.getLength(array);
        for (int i = 0; i < length && !array.getClass().getComponentType().isPrimitive(); i++) {
            open.add(Array.get(array, i));
        }
        return length;
    }

    private static int fields(Object one, ArrayDeque<Object> open) throws IllegalAccessException {
        int many = 0;
        for (Field field : one.getClass().getDeclaredFields()) {
            if (!Modifier.isStatic(field.getModifiers())) {
                many++;
                field.setAccessible(true);
                if (!field.getType().isPrimitive()) {
                    open.add(field.get(one));
                }
            }
        }
        return many;
    }

    private static long allocated() {
        return THREADS.getThreadAllocatedBytes(Thread.currentThread().getId());
    }

    private static void dear(ConkerYard x) {
        answers += x.hards(0, 0) + x.swings(1) + x.look(60, 1) + x.ruled(0) + x.frost(10, 60, 50, 1) + x.best(40, 1);
        answers += x.rests(0, 1, 20, 0) + x.cups(3) + x.ladder(-1) + x.own(0) + x.last(1) + x.rings() + x.kings();
        answers += x.alone() + x.smashed(2) + x.ahead(0, 100, 0) + x.pence(9999, 3) + x.beats(0) + x.would(0, 1, 0);
        answers += x.image(0) + x.round() + x.pickle(0, 1) + x.string(0, 5) + x.bout(0, 1) + x.undo() + x.back(0);
        answers += x.feed(1, 2, 3, 4, 5) + x.rule() + x.yard() + x.end(0) + x.count(5) + x.conker(0, 0);
    }
}
