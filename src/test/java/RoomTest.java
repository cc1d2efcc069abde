import java.lang.management.ManagementFactory;
import java.lang.reflect.Array;
import java.lang.reflect.Field;
import java.lang.reflect.Modifier;
import java.util.ArrayDeque;
import java.util.Collections;
import java.util.Deque;
import java.util.IdentityHashMap;
import java.util.Set;

/** What an object takes of the room: few objects as it is made, and none with its calls. */
public final class RoomTest {
    private static final int MOST_OBJECTS = 240, MOST_PARTS = 2100;

    private static final Checks c = new Checks();
    private int objects;
    private int parts;

    public static void main(String[] args) throws IllegalAccessException {
        made();
        called();
        c.end();
    }

    private static RoomTest countOf(Object root) throws IllegalAccessException {
        RoomTest count = new RoomTest();
        Set<Object> known = Collections.newSetFromMap(new IdentityHashMap<>());
        Deque<Object> open = new ArrayDeque<>();
        open.add(root);
        while (!open.isEmpty()) {
            Object next = open.remove();
            if (known.add(next)) {
                count.objects++;
                count.look(next, open);
            }
        }
        return count;
    }

    private void look(Object next, Deque<Object> open) throws IllegalAccessException {
        if (next.getClass().isArray()) {
            int length = Array.getLength(next);
            parts += length;
            for (int k = 0; k < length && !next.getClass().getComponentType().isPrimitive(); k++) {
                open.add(Array.get(next, k));
            }
            return;
        }
        for (Field f : next.getClass().getDeclaredFields()) {
            if (!Modifier.isStatic(f.getModifiers())) {
                parts++;
                f.setAccessible(true);
                if (!f.getType().isPrimitive() && f.get(next) != null) {
                    open.add(f.get(next));
                }
            }
        }
    }

    private static void made() throws IllegalAccessException {
        SignedClouds x = new SignedClouds();
        RoomTest before = countOf(x);
        c.due("few objects: " + before.objects, before.objects <= MOST_OBJECTS ? 1 : 0, 1);
        c.due("few fields and elements: " + before.parts, before.parts <= MOST_PARTS ? 1 : 0, 1);
        feedAll(x);
        round(x);
        RoomTest behind = countOf(x);
        c.due("objects behind its calls", behind.objects, before.objects);
        c.due("fields and elements behind its calls", behind.parts, before.parts);
    }

    private static void feedAll(SignedClouds x) {
        String text = "w5,13;b2,4,9,3;a11,1,44,3;f6,2,7,1;c13,3,25,1;m0,5,18,6;";
        for (int i = 0; i < text.length(); i++) {
            x.feed(text.charAt(i));
        }
        x.sky();
    }

    /** Each call once at least. */
    private static int round(SignedClouds x) {
        int sum = x.row(0, 0, 40) + x.row(7, 2, 12) + x.set(0, 0, 1) + x.copy(0, 0, 0, 1, 39) + x.drop(0) + x.drop(0);
        sum += x.feed('w') + x.sky() + x.fault() + x.days(3) + x.wind(4) + x.tow(1, 2) + x.silk(2) + x.sign(0, 1);
        sum += x.undo() + x.cloud(0, 4) + x.field(0, 1) + x.ahead(1, 60, 0) + x.over(0, 60) + x.falls(0, 60);
        sum += x.dry(60) + x.first(9) + x.gone(1) + x.storm(0, 3) + x.blue(0) + x.leastTow(65535, 24, -1);
        sum += x.harvest(3, 9) + x.who(1, 0, 7, 0, 12) + x.places(1, 0, 7, 0, 12) + x.from(1, 60) + x.alike(1);
        sum += x.likeness(0, 1) + x.estate(3) + (int) x.seen(3, 7, 1) + x.drawn(60, 999999, 0) + x.image(0);
        sum += x.restore(0) + x.kind(0) + x.as(0, 5) + x.ask(1, 0) + x.trace(0) + x.count(5) + x.status();
        return sum;
    }

    private static void called() {
        com.sun.management.ThreadMXBean bean = (com.sun.management.ThreadMXBean) ManagementFactory.getThreadMXBean();
        SignedClouds x = new SignedClouds();
        feedAll(x);
        int sum = round(x);
        long start = bean.getCurrentThreadAllocatedBytes();
        long empty = bean.getCurrentThreadAllocatedBytes() - start;
        start = bean.getCurrentThreadAllocatedBytes();
        for (int n = 0; n < 8; n++) {
            sum += round(x);
        }
        long took = bean.getCurrentThreadAllocatedBytes() - start - empty;
        // the least object has 16 bytes: fewer than 8 times 16 are not even one in each round
        c.due("eight rounds of all calls take " + took + " bytes (" + sum + ")", took < 8 * 16 ? 1 : 0, 1);
    }
}
