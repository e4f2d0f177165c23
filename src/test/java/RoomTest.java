import com.sun.management.ThreadMXBean;
import java.lang.management.ManagementFactory;
import java.lang.reflect.Array;
import java.lang.reflect.Field;
import java.lang.reflect.Modifier;
import java.util.Collections;
import java.util.IdentityHashMap;
import java.util.Set;
import java.util.function.ToIntFunction;

/** All calls of a run live in one room: what a new object holds is little, and calls make nothing. */
public final class RoomTest {
    private static final int OBJECTS_MOST = 20;
    private static final int ELEMENTS_MOST = 6000;
    private static final int OBJECTS = 40;
    private static final int TIMES = 80;
    private static final Due T = new Due("RoomTest");
    private static final ThreadMXBean THREADS = (ThreadMXBean) ManagementFactory.getThreadMXBean();

    private static int elements = 0;

    private RoomTest() {
    }

    public static void main(String[] args) throws IllegalAccessException {
        held();
        T.holds("what is made can be counted", THREADS.isThreadAllocatedMemorySupported());
        made("fill", x -> x.fill(8, 0x01020304));
        made("run", x -> x.run(0, 256, 7));
        made("copy", x -> x.copy(1, 0, 255));
        made("octet", x -> x.octet(3));
        made("write, RAW", x -> x.write(0));
        made("write, PACKED", x -> x.run(0, 200, 7) + x.write(1));
        made("write, SAME", x -> x.run(0, 256, 7) + x.write(1));
        made("write, refused", x -> x.write(1) + x.write(2) + x.write(40));
        made("read, RAW", x -> x.read(0));
        made("read, PACKED", x -> x.run(0, 200, 7) + x.write(3) + x.read(3));
        made("trim", x -> x.trim(0));
        made("slot", x -> x.slot(0, 1));
        made("stored", x -> x.stored(5));
        made("alter", x -> x.alter(5, 1));
        made("compact, a slot is moved", x -> x.trim(1) + x.write(0) + x.write(1) + x.trim(0) + x.compact());
        made("free", x -> x.free(0) + x.free(1) + x.free(2));
        made("type, decode, place", x -> x.type(0x14410100, 4) + x.type(0x1042, 2) + x.decode() + x.place());
        made("decode, an error", x -> x.type(0x10410200, 4) + x.decode() + x.place());
        T.end();
    }

    private static void held() throws IllegalAccessException {
        Set<Object> seen = Collections.newSetFromMap(new IdentityHashMap<>());
        look(new PackedSlots(4096), seen);
        T.holds(seen.size() + " objects and arrays are " + OBJECTS_MOST + " at most", seen.size() <= OBJECTS_MOST);
        T.holds(elements + " fields and elements are " + ELEMENTS_MOST + " at most", elements <= ELEMENTS_MOST);
        T.holds("the store was seen", elements > 4096);
    }

    private static void look(Object at, Set<Object> seen) throws IllegalAccessException {
        if (at == null || !seen.add(at)) {
            return;
        }
        if (at.getClass().isArray()) {
            elements += Array.getLength(at);
            return;
        }
        for (Field f : at.getClass().getDeclaredFields()) {
            if (!Modifier.isStatic(f.getModifiers())) {
                elements++;
                f.setAccessible(true);
                if (!f.getType().isPrimitive()) {
                    look(f.get(at), seen);
                }
            }
        }
    }

    /** Some bytes are Java's own now and then; less than one byte a time is too little for a thing each time. */
    private static void made(String name, ToIntFunction<PackedSlots> call) {
        PackedSlots[] objects = new PackedSlots[OBJECTS];
        for (int k = 0; k < OBJECTS; k++) {
            objects[k] = new PackedSlots(600);
            Given.allDifferent(objects[k]);
            objects[k].write(0);
        }
        // Once before it is counted: the first time makes things of Java's own.
        call.applyAsInt(objects[0]);
        long before = THREADS.getThreadAllocatedBytes(Thread.currentThread().getId());
        for (PackedSlots x : objects) {
            for (int k = 0; k < TIMES; k++) {
                call.applyAsInt(x);
            }
        }
        long bytes = THREADS.getThreadAllocatedBytes(Thread.currentThread().getId()) - before;
        T.holds(name + " makes nothing (" + bytes + " bytes)", bytes < (long) OBJECTS * TIMES);
    }
}
