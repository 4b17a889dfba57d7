import com.sun.management.ThreadMXBean;
import java.lang.management.ManagementFactory;
import java.lang.reflect.Array;
import java.lang.reflect.Field;
import java.lang.reflect.Modifier;
import java.util.ArrayDeque;
import java.util.IdentityHashMap;
import java.util.Map;

/** LANGUAGE.md, rule 12: a pair is made whole by its constructor, and no later call makes a thing or lets one go. */
public final class RoomTest {
    private static final int MOST_OBJECTS = 600000;
    private static final int MOST_ELEMENTS = 7300000;
    /** What the Java machine itself may take beside a call; the smallest row of a console that matters has more. */
    private static final long SMALL = 4096;
    private static final ThreadMXBean THREADS = (ThreadMXBean) ManagementFactory.getThreadMXBean();

    public static void main(String[] args) {
        onePairFitsTheRoom();
        callsLeaveTheSameObjects();
        callsMakeNothing();
        Checks.end("RoomTest");
    }

    private static void onePairFitsTheRoom() {
        Map<Object, Boolean> all = objectsOf(new HandheldPair());
        long elements = 0;
        for (Object object : all.keySet()) {
            elements += elementsOf(object);
        }
        Checks.due("objects fit", all.size() < MOST_OBJECTS ? 1 : 0, 1);
        Checks.due("elements fit, and as much again is left for the calls", 2 * elements < MOST_ELEMENTS ? 1 : 0, 1);
    }

    private static void callsLeaveTheSameObjects() {
        HandheldPair x = new HandheldPair();
        Map<Object, Boolean> made = objectsOf(x);
        x.keep(0);
        dueSame("the first keep, both OFF", x, made);
        x.take(0);
        dueSame("take", x, made);
        Programs.busy().insertInto(x, 0);
        Programs.copying(0x81).insertInto(x, 1);
        x.run(50000);
        dueSame("insert and run", x, made);
        x.keep(1);
        dueSame("the first keep of the other state", x, made);
        x.keep(0);
        dueSame("a second keep", x, made);
        x.run(20000);
        x.take(1);
        x.take(0);
        dueSame("take of both", x, made);
        x.power(0);
        x.keys(1, 0x55);
        x.run(30000);
        dueSame("power, keys and run", x, made);
        Checks.dueThrow("refused", UnsupportedOperationException.class, () -> x.insert(0));
        x.keep(1);
        dueSame("keep behind a refusal", x, made);
    }

    private static void callsMakeNothing() {
        bytesOfCalls(false);
        bytesOfCalls(true);
    }

    /** The first time the Java machine makes the texts and classes that it needs, and that is not looked at. */
    private static void bytesOfCalls(boolean look) {
        HandheldPair x = Programs.busyPair();
        for (int turn = 0; turn < 2; turn++) {
            for (int k = 0; k < 2; k++) {
                long before = bytesMade();
                x.keep(k);
                dueSmall("keep " + k, look, before);
                x.run(100);
            }
            for (int k = 0; k < 2; k++) {
                long before = bytesMade();
                x.take(k);
                dueSmall("take " + k, look, before);
            }
            long before = bytesMade();
            x.run(80000);
            dueSmall("run", look, before);
            before = bytesMade();
            x.power(0);
            x.keys(0, 3);
            dueSmall("power and keys", look, before);
            before = bytesMade();
            x.end(0x8000);
            x.feed(1, 2, 3, 4, 5);
            x.patch(0x150, 0x76, true);
            x.insert(1);
            dueSmall("the tape and insert", look, before);
            before = bytesMade();
            tellAll(x);
            dueSmall("what is told", look, before);
        }
    }

    private static void tellAll(HandheldPair x) {
        for (int what = 0; what <= 25; what++) {
            x.about(0, what);
        }
        for (int address = 0; address < 0x10000; address += 0x1777) {
            x.memory(1, address);
        }
        x.picture(0);
        x.pixel(0, 1, 2);
        x.saved(0, 5);
        x.time(1);
        x.count(2);
        x.refused();
    }

    private static long bytesMade() {
        return THREADS.getThreadAllocatedBytes(Thread.currentThread().getId());
    }

    private static void dueSmall(String what, boolean look, long before) {
        long made = bytesMade() - before;
        if (look) {
            Checks.due(what + " makes nothing (" + made + " bytes)", made <= SMALL ? 1 : 0, 1);
        }
    }

    private static void dueSame(String what, HandheldPair x, Map<Object, Boolean> made) {
        Map<Object, Boolean> now = objectsOf(x);
        int others = 0;
        for (Object object : now.keySet()) {
            others += made.containsKey(object) ? 0 : 1;
        }
        Checks.due(what + ": objects made", others, 0);
        Checks.due(what + ": objects let go", made.size() - now.size(), 0);
    }

    /** All objects that can be come to from this one; the texts of the class are its constants. */
    private static Map<Object, Boolean> objectsOf(Object root) {
        Map<Object, Boolean> found = new IdentityHashMap<>();
        ArrayDeque<Object> open = new ArrayDeque<>();
        open.add(root);
        found.put(root, true);
        while (!open.isEmpty()) {
            Object object = open.remove();
            if (object instanceof Object[]) {
                for (Object part : (Object[]) object) {
                    find(part, found, open);
                }
            } else if (!object.getClass().isArray()) {
                for (Field field : object.getClass().getDeclaredFields()) {
                    if (!Modifier.isStatic(field.getModifiers()) && !field.getType().isPrimitive()) {
                        find(valueOf(field, object), found, open);
                    }
                }
            }
        }
        return found;
    }

    private static void find(Object part, Map<Object, Boolean> found, ArrayDeque<Object> open) {
        if (part != null && !(part instanceof String) && found.put(part, true) == null) {
            open.add(part);
        }
    }

    private static Object valueOf(Field field, Object object) {
        try {
            field.setAccessible(true);
            return field.get(object);
        } catch (IllegalAccessException e) {
            throw new IllegalStateException(e);
        }
    }

    private static int elementsOf(Object object) {
        return object.getClass().isArray() ? Array.getLength(object) : object.getClass().getDeclaredFields().length;
    }
}
