import java.lang.management.ManagementFactory;
import java.lang.reflect.Array;
import java.lang.reflect.Field;
import java.lang.reflect.Modifier;
import java.util.Collections;
import java.util.IdentityHashMap;
import java.util.Set;

/**
 * All calls of one run live in one room (some 600,000 objects and arrays, 7.3 million fields and elements): what an
 * object holds is counted, and calls must make no more, so that no run can fill it.
 */
public final class RoomTest {
    private static final int MOST_CALLS = 512;
    // As many as round() makes at most.
    private static final int ROUND = 27;
    private static final int[] BYTES = {97, 10, 226, 130, 31, 255};

    private int objects;
    private int elements;

    private RoomTest() {
    }

    private void counts(Object held, Set<Object> seen) throws IllegalAccessException {
        if (held == null || !seen.add(held)) {
            return;
        }
        objects++;
        if (held.getClass().isArray()) {
            int length = Array.getLength(held);
            elements += length;
            for (int i = 0; i < length && held instanceof Object[]; i++) {
                counts(Array.get(held, i), seen);
            }
            return;
        }
        for (Field f : held.getClass().getDeclaredFields()) {
            if (!Modifier.isStatic(f.getModifiers())) {
                elements++;
                f.setAccessible(true);
                if (!f.getType().isPrimitive()) {
                    counts(f.get(held), seen);
                }
            }
        }
    }

    // Every call, the ones that make a new text most of all; nothing here makes objects but the class itself.
    private static long round(ChunkView x, int i) {
        long sum = x.type(BYTES[i % 6]) + x.type(BYTES[(i + 1) % 6]) + x.edits(i % 3, 0);
        sum += x.type(97) + x.stages(0, 1) + x.stages(2, 0) + x.does() + x.stages(0, 0) + x.drops();
        sum += i % 5 == 0 ? x.undo() : x.clear();
        sum += x.at(0) + x.tells(3, 1, 1) + x.spot(2, 3) + x.column(0, 1) + x.line(0, 3) + x.wide(0) + x.chunk(0, 4);
        sum += x.marks('a' + i % 9, 1) + x.lifts('b') + x.mark('c') + x.next(0) + x.seeks(0) + x.reads();
        sum += x.keep(i % 2) + (i % 7 == 0 ? x.back(0) : 0) + x.count(5) + x.digest();
        return sum;
    }

    private static ChunkView used() {
        ChunkView x = new ChunkView();
        for (int i = 0; i * ROUND + ROUND <= MOST_CALLS; i++) {
            round(x, i);
        }
        return x;
    }

    private static void holdsLittle() throws IllegalAccessException {
        RoomTest fresh = new RoomTest();
        fresh.counts(new ChunkView(), Collections.newSetFromMap(new IdentityHashMap<>()));
        RoomTest used = new RoomTest();
        used.counts(used(), Collections.newSetFromMap(new IdentityHashMap<>()));
        System.out.println("a new object: " + fresh.objects + " objects, " + fresh.elements + " elements; used: "
            + used.objects + ", " + used.elements);
        // Several hundred of them would still have room.
        Due.holds("at most 600 objects", used.objects <= 600);
        Due.holds("at most 7,300 elements", used.elements <= 7300);
        // Two images are all that may come, each a page: itself, three rows, their numbers.
        Due.holds("two images more, nothing else", used.objects - fresh.objects <= 14);
    }

    private static long bytesMade(com.sun.management.ThreadMXBean threads) {
        long id = Thread.currentThread().getId();
        ChunkView x = new ChunkView();
        x.keep(0);
        x.keep(1);
        long sum = 0;
        // What asking itself makes is told by asking twice.
        long asked = -threads.getThreadAllocatedBytes(id) + threads.getThreadAllocatedBytes(id);
        long ahead = threads.getThreadAllocatedBytes(id);
        for (int i = 0; i * ROUND + ROUND + 2 <= MOST_CALLS; i++) {
            sum += round(x, i);
        }
        long made = threads.getThreadAllocatedBytes(id) - ahead - asked;
        Due.holds("the calls are made", sum != 0);
        return made;
    }

    private static void callsMakeNothing() {
        if (!(ManagementFactory.getThreadMXBean() instanceof com.sun.management.ThreadMXBean threads)) {
            System.out.println("this Java does not tell what was made");
            return;
        }
        // Java itself may make something while it loads what a first try needs.
        long least = Long.MAX_VALUE;
        for (int i = 0; i < 3; i++) {
            least = Math.min(least, bytesMade(threads));
        }
        Due.due("bytes that calls make", least, 0);
    }

    public static void main(String[] args) throws Exception {
        holdsLittle();
        callsMakeNothing();
        Due.ends();
    }
}
