import com.sun.management.ThreadMXBean;
import java.lang.management.ManagementFactory;
import java.lang.reflect.Array;
import java.lang.reflect.Field;
import java.lang.reflect.Modifier;
import java.util.ArrayDeque;
import java.util.Collections;
import java.util.Deque;
import java.util.IdentityHashMap;
import java.util.Set;

/** All calls of one run live in one room: what an object takes of it when made, and that no call takes more. */
public final class RoomTest {
    private static final Due due = new Due();
    /** A thousand objects must fit into the room of 600,000 objects, 7.3 million fields and elements. */
    private static final int MOST_OBJECTS = 600;
    private static final int MOST_PLACES = 7300;
    private static final String TEXT = "k100 90;k200 95;k300 110;k50 100;k9 99;k8 98;k7 97;k6 96;l2;f1;s7;";

    private int objects = 0;
    private int places = 0;
    private final Set<Object> seen = Collections.newSetFromMap(new IdentityHashMap<>());

    public static void main(String[] args) throws IllegalAccessException {
        LiarClocks x = new LiarClocks();
        RoomTest first = new RoomTest();
        first.walk(x);
        due.holds("objects: " + first.objects, first.objects <= MOST_OBJECTS);
        due.holds("fields and elements: " + first.places, first.places <= MOST_PLACES);
        everyCall(x);
        RoomTest then = new RoomTest();
        then.walk(x);
        due.is("objects behind the calls", then.objects, first.objects);
        due.is("fields and elements behind the calls", then.places, first.places);
        noCallMakesAnything();
        due.end();
    }

    private void walk(Object from) throws IllegalAccessException {
        Deque<Object> open = new ArrayDeque<>();
        open.add(from);
        while (!open.isEmpty()) {
            Object o = open.remove();
            if (!seen.add(o)) {
                continue;
            }
            objects++;
            if (o.getClass().isArray()) {
                places += Array.getLength(o);
                for (int k = 0; o instanceof Object[] row && k < row.length; k++) {
                    if (row[k] != null) {
                        open.add(row[k]);
                    }
                }
                continue;
            }
            for (Field f : o.getClass().getDeclaredFields()) {
                if (!Modifier.isStatic(f.getModifiers())) {
                    places++;
                    f.setAccessible(true);
                    if (!f.getType().isPrimitive() && f.get(o) != null) {
                        open.add(f.get(o));
                    }
                }
            }
        }
    }

    private static void noCallMakesAnything() {
        ThreadMXBean threads = (ThreadMXBean) ManagementFactory.getThreadMXBean();
        long me = Thread.currentThread().getId();
        LiarClocks[] made = new LiarClocks[50];
        for (int k = 0; k < made.length; k++) {
            made[k] = new LiarClocks();
        }
        // Counting itself may cost a little, whatever is called; one object for every call would be far more.
        threads.getThreadAllocatedBytes(me);
        long before = threads.getThreadAllocatedBytes(me);
        for (LiarClocks x : made) {
            everyCall(x);
        }
        long taken = threads.getThreadAllocatedBytes(me) - before;
        due.holds("bytes taken by some ten thousand calls: " + taken, taken < 4096);
    }

    private static void everyCall(LiarClocks x) {
        for (int k = 0; k < TEXT.length(); k++) {
            x.feed(TEXT.charAt(k));
        }
        x.clocks();
        x.fault();
        x.seed(7);
        for (int again = 0; again < 3; again++) {
            deeds(x);
            for (int what = -1; what <= 16; what++) {
                x.told(what);
                x.clock(what & 7, what);
                x.heard(2, 0, what);
                x.alarmAt(0, what);
            }
            x.behind(20);
            x.within(0);
            x.write(0, 5);
            x.keep(again & 1);
            x.undo(16);
            x.goBack(0);
        }
        x.tear();
    }

    private static void deeds(LiarClocks x) {
        x.tick(20);
        x.round();
        x.lie(2, 0, 99);
        x.error(0, 1, 3);
        x.liar(3, true);
        x.stand(4);
        x.join(4);
        x.alarm(0, 500);
        x.drift(16);
        x.undo(3);
    }
}
