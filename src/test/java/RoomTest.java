import java.lang.management.ManagementFactory;
import java.lang.reflect.Array;
import java.lang.reflect.Field;
import java.lang.reflect.Modifier;
import java.util.ArrayDeque;
import java.util.Collections;
import java.util.Deque;
import java.util.IdentityHashMap;
import java.util.Random;
import java.util.Set;

/** An object's rows are made by its constructor, few of them; calls make no objects, and keep none but these. */
public final class RoomTest {
    private static final Due DUE = new Due("RoomTest");
    /** The room of all runs is some 600,000 objects and 7.3 million elements: 4,000 mines must find place. */
    private static final int OBJECTS_MOST = 150, ELEMENTS_MOST = 1800;
    private static final int ROUNDS = 200;

    private long elements;

    public static void main(String[] args) throws ReflectiveOperationException {
        PrayerTailings x = new PrayerTailings();
        RoomTest room = new RoomTest();
        Set<Object> before = room.objectsOf(x);
        DUE.is("objects of a mine", Math.max(before.size(), OBJECTS_MOST), OBJECTS_MOST);
        DUE.is("fields and elements of a mine", Math.max(room.elements, ELEMENTS_MOST), ELEMENTS_MOST);
        DUE.is("the rows were found", before.size() > 20 && room.elements > 500 ? 1 : 0, 1);
        use(x, new Random(1));
        Set<Object> behind = new RoomTest().objectsOf(x);
        DUE.is("objects behind the calls", behind.size(), before.size());
        behind.removeAll(before);
        DUE.is("objects that were not there ahead of the calls", behind.size(), 0);
        callsMakeNothing(x);
        DUE.end();
    }

    private Set<Object> objectsOf(Object root) throws ReflectiveOperationException {
        Set<Object> found = Collections.newSetFromMap(new IdentityHashMap<>());
        Deque<Object> open = new ArrayDeque<>();
        open.add(root);
        while (!open.isEmpty()) {
            Object one = open.remove();
            if (!found.add(one)) {
                continue;
            }
            if (one.getClass().isArray()) {
                rowOf(one, open);
            } else {
                fieldsOf(one, open);
            }
        }
        return found;
    }

    private void rowOf(Object row, Deque<Object> open) {
        int length = Array.getLength(row);
        elements += length;
        for (int i = 0; i < length && !row.getClass().getComponentType().isPrimitive(); i++) {
            if (Array.get(row, i) != null) {
                open.add(Array.get(row, i));
            }
        }
    }

    private void fieldsOf(Object one, Deque<Object> open) throws ReflectiveOperationException {
        for (Field field : one.getClass().getDeclaredFields()) {
            if (!Modifier.isStatic(field.getModifiers())) {
                elements++;
                field.setAccessible(true);
                if (!field.getType().isPrimitive() && field.get(one) != null) {
                    open.add(field.get(one));
                }
            }
        }
    }

    /** By the count of the bytes that this thread has made room for; the first rounds load what is needed. */
    private static void callsMakeNothing(PrayerTailings x) {
        if (!(ManagementFactory.getThreadMXBean() instanceof com.sun.management.ThreadMXBean thread)
                || !thread.isThreadAllocatedMemorySupported()) {
            return;
        }
        Random random = new Random(2);
        long id = Thread.currentThread().getId();
        long calls = 0;
        long start = 0;
        for (int round = 0; round < 2 * ROUNDS; round++) {
            if (round == ROUNDS) {
                start = thread.getThreadAllocatedBytes(id);
                calls = 0;
            }
            calls += use(x, random);
        }
        long made = thread.getThreadAllocatedBytes(id) - start;
        DUE.is("calls to be counted", calls > 9000 ? 1 : 0, 1);
        DUE.is("bytes made by " + calls + " calls: " + made, made < calls ? 1 : 0, 1);
    }

    /** Each call of the face, some with arguments that are refused; how many. */
    private static int use(PrayerTailings x, Random random) {
        x.wipe();
        x.write(8, 0x4D33433035373230L);
        x.write(8, 0x4B3030304B303131L);
        x.write(8, 0x4B3036304B313130L);
        x.fault();
        x.mine();
        for (int i = 0; i < 40; i++) {
            call(x, random.nextInt(23), random.nextInt(13) - 1, random.nextInt(12));
        }
        return 46;
    }

    private static void call(PrayerTailings x, int which, int a, int b) {
        switch (which) {
            case 0: x.about(a); break;
            case 1: x.cell(a, b); break;
            case 2: x.monk(a, b); break;
            case 3: x.pray(a); break;
            case 4: x.oath(a); break;
            case 5: x.doubt(a); break;
            case 6: x.walk(a, b); break;
            case 7: x.day(); break;
            case 8: x.undo(); break;
            case 9: x.falls(a); break;
            case 10: x.psalm(a, b); break;
            case 11: x.best(a); break;
            case 12: x.bestAt(a, b); break;
            case 13: x.oaths(); break;
            case 14: x.down(a); break;
            case 15: x.see(a, b); break;
            case 16: x.unsee(); break;
            case 17: x.silent(a); break;
            case 18: x.chance(a, b, b > 5); break;
            case 19: x.seed(a); break;
            case 20: x.month(a, b); break;
            case 21: x.keep(a); break;
            default: x.again(a);
        }
    }
}
