import java.lang.management.ManagementFactory;
import java.lang.reflect.Array;
import java.lang.reflect.Field;
import java.lang.reflect.Modifier;
import java.util.ArrayDeque;
import java.util.Collections;
import java.util.Deque;
import java.util.IdentityHashMap;
import java.util.Set;

/** The room that objects take: little when made, no more by calls, and no call makes a thing but what row throws. */
public final class RoomTest {
    private static final int MOST_OBJECTS = 60;
    private static final int MOST_ELEMENTS = 1500;
    private static final int MANY = 100;

    private int objects = 0;
    private int elements = 0;

    public static void main(String[] args) throws ReflectiveOperationException {
        SixWhoTurn x = new SixWhoTurn();
        RoomTest made = roomOf(x);
        Check.due("objects: " + made.objects, made.objects <= MOST_OBJECTS, true);
        Check.due("fields and elements: " + made.elements, made.elements <= MOST_ELEMENTS, true);
        everyCall(x);
        RoomTest used = roomOf(x);
        Check.due("objects behind all calls", used.objects, made.objects);
        Check.due("fields and elements behind all calls", used.elements, made.elements);
        callsMakeNothing();
        Check.finish();
    }

    private static void callsMakeNothing() {
        com.sun.management.ThreadMXBean threads = (com.sun.management.ThreadMXBean) ManagementFactory.getThreadMXBean();
        long id = Thread.currentThread().getId();
        SixWhoTurn[] many = new SixWhoTurn[MANY];
        for (int k = 0; k < MANY; k++) {
            many[k] = new SixWhoTurn();
        }
        // The first time, the machine itself makes things to find the methods.
        everyCall(new SixWhoTurn());
        threads.getThreadAllocatedBytes(id);
        long before = threads.getThreadAllocatedBytes(id);
        for (int k = 0; k < MANY; k++) {
            everyCall(many[k]);
        }
        long made = threads.getThreadAllocatedBytes(id) - before;
        // The asking may make a little; the smallest thing made once by each object comes to more.
        Check.due("bytes made: " + made, made < 16 * MANY, true);
    }

    /** Each call, taken and refused, with a sheet that is taken back; some 200 calls. */
    private static void everyCall(SixWhoTurn x) {
        x.skill(0, 0, 0, 70);
        x.skill(1, 8, 2, 10);
        x.skill(0, 9, 3, 100);
        x.libre(0, 11);
        x.set(0, 12);
        x.set(9, 9);
        x.lineUp(0, 0, 1, 2, 3, 4, 5);
        x.lineUp(1, 6, 7, 8, 9, 10, 11);
        x.lineUp(1, 6, 7, 8, 9, 10, 12);
        x.turn(0, 0);
        x.turn(1, 0);
        x.begin(0);
        for (int k = 0; k < 9; k++) {
            x.rally(k & 1);
            x.free(0, x.at(0, 4));
            x.overlap(k & 1);
            x.feet(0, 3, 10 * k, 20);
            x.chance();
            x.weight();
            x.odds(k % 6, 2, 1);
            x.advice(k & 1);
            x.may(0, k, 6 + k % 6);
            x.change(1, 6 + k % 6, k % 6);
            x.pause(0);
            x.of(0, k % 7);
            x.count(k % 8);
            x.served(0, k);
        }
        x.sign(0x41424121);
        x.sheet();
        x.sign(0x41424161);
        x.sign(0x2d000000);
        x.end(5);
        x.sheet();
        x.sign(0x41424142);
        x.sheet();
        x.rally(0);
        x.wrong(0);
        x.row(0);
        while (x.rally(0) == 0) {
            x.chance();
        }
        x.libre(1, 3);
    }

    private static RoomTest roomOf(SixWhoTurn x) throws ReflectiveOperationException {
        RoomTest room = new RoomTest();
        Set<Object> seen = Collections.newSetFromMap(new IdentityHashMap<>());
        Deque<Object> open = new ArrayDeque<>();
        open.add(x);
        seen.add(x);
        while (!open.isEmpty()) {
            Object o = open.remove();
            room.objects++;
            if (o.getClass().isArray()) {
                room.elements += Array.getLength(o);
                if (!o.getClass().getComponentType().isPrimitive()) {
                    for (Object part : (Object[]) o) {
                        visit(part, seen, open);
                    }
                }
                continue;
            }
            for (Field f : o.getClass().getDeclaredFields()) {
                if (Modifier.isStatic(f.getModifiers())) {
                    continue;
                }
                room.elements++;
                if (!f.getType().isPrimitive()) {
                    f.setAccessible(true);
                    visit(f.get(o), seen, open);
                }
            }
        }
        return room;
    }

    private static void visit(Object part, Set<Object> seen, Deque<Object> open) {
        if (part != null && seen.add(part)) {
            open.add(part);
        }
    }
}
