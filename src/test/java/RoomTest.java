import com.sun.management.ThreadMXBean;
import java.lang.management.ManagementFactory;
import java.lang.reflect.Array;
import java.lang.reflect.Field;
import java.lang.reflect.Modifier;
import java.nio.file.Files;
import java.nio.file.Path;
import java.util.ArrayDeque;
import java.util.Deque;
import java.util.IdentityHashMap;
import java.util.Map;
import java.util.function.Consumer;

/** What an object and its calls make (LANGUAGE.md, rule 12): rows in constructors, and in calls nothing but exceptions. */
public final class RoomTest {
    private static final Checks CHECKS = new Checks("RoomTest");
    private static final int CALLS = 512;
    /** The room that all calls of a run live in. */
    private static final long ROOM_OBJECTS = 600_000;
    private static final long ROOM_ELEMENTS = 7_300_000;
    /** What README.md tells of a new object. */
    private static final long NEW_OBJECTS = 120;
    private static final long NEW_ELEMENTS = 205_000;
    /** An exception, with what the machine notes in it of the calls that stand open: far less than the shortest of the long rows. */
    private static final long EXCEPTION_BYTES = 2_000;

    public static void main(String[] args) throws Exception {
        newObject();
        nothingNewIsKept();
        nothingIsMade();
        rowsInConstructors();
        CHECKS.finish();
    }

    /** All objects and arrays that belong to one. */
    private static Map<Object, Boolean> parts(Object whole) throws IllegalAccessException {
        Map<Object, Boolean> seen = new IdentityHashMap<>();
        Deque<Object> open = new ArrayDeque<>();
        open.add(whole);
        seen.put(whole, true);
        while (!open.isEmpty()) {
            Object part = open.remove();
            if (part instanceof Object[] row) {
                for (Object element : row) {
                    note(element, seen, open);
                }
            } else if (!part.getClass().isArray()) {
                for (Field field : part.getClass().getDeclaredFields()) {
                    if (isOwn(field) && !field.getType().isPrimitive()) {
                        field.setAccessible(true);
                        note(field.get(part), seen, open);
                    }
                }
            }
        }
        return seen;
    }

    private static void note(Object part, Map<Object, Boolean> seen, Deque<Object> open) {
        if (part != null && seen.put(part, true) == null) {
            open.add(part);
        }
    }

    private static boolean isOwn(Field field) {
        return !Modifier.isStatic(field.getModifiers());
    }

    private static long elements(Map<Object, Boolean> parts) {
        long sum = 0;
        for (Object part : parts.keySet()) {
            if (part.getClass().isArray()) {
                sum += Array.getLength(part);
            } else {
                for (Field field : part.getClass().getDeclaredFields()) {
                    sum += isOwn(field) ? 1 : 0;
                }
            }
        }
        return sum;
    }

    private static void newObject() throws Exception {
        Map<Object, Boolean> parts = parts(new BlockPicture());
        long elements = elements(parts);
        System.out.println("RoomTest: a new object has " + parts.size() + " objects and arrays, " + elements + " fields and elements");
        CHECKS.isTrue("objects of a new one are " + parts.size(), parts.size() <= NEW_OBJECTS);
        CHECKS.isTrue("elements of a new one are " + elements, elements <= NEW_ELEMENTS);
        CHECKS.isTrue("an exception with each call has room too",
                parts.size() + CALLS <= ROOM_OBJECTS && elements + CALLS * 20 <= ROOM_ELEMENTS);
    }

    /** The dearest calls: the largest canvas, long rows, pictures read, read in vain, drawn and taken. */
    private static void dearCalls(BlockPicture x) {
        x.scale(0, 1, 0);
        x.scale(1, 1, 0);
        x.entry(0, 7, 7, 1);
        for (int i = 0; i < 4; i++) {
            x.pack(1 + i % 2, 1 + i / 2, i);
            x.turn();
            x.unpack();
            x.sample(63, 63, 0);
            x.level(0, 0, 0, 0);
            x.level(1, 0, 0, 0);
            x.take();
        }
        for (int i = 0; i < 200; i++) {
            x.feed(i, -i, i, -i, i);
        }
        x.change(0, 0);
        x.end(x.size());
        x.about(0);
        x.at(63, 63, 0);
        x.out(x.size() - 1);
        x.place();
        x.canvas(64, 64, 3);
        x.fill(0, 0, 64, 64, 0xFF8000);
        x.slope(0, 0, 64, 64, 0xFF8000, 0x0080FF);
        x.pack(1, 1, 1);
    }

    private static void wrongCalls(BlockPicture x) {
        x.turn();
        x.end(x.size() - 1);
        x.unpack();
        x.change(0, 255);
        x.unpack();
        x.end(0);
        x.unpack();
        attempt(() -> x.canvas(0, 8, 1));
        attempt(() -> x.fill(-1, 0, 1, 1, 0));
        attempt(() -> x.pack(3, 1, 0));
        attempt(() -> x.end(1));
        attempt(() -> x.sample(64, 0, 0));
        attempt(() -> x.level(2, 0, 0, 0));
    }

    private static void attempt(Runnable call) {
        try {
            call.run();
        } catch (RuntimeException e) {
            // Which exception it is the other tests look at.
            return;
        }
        CHECKS.isTrue("a wrong call throws", false);
    }

    private static void nothingNewIsKept() throws Exception {
        for (int planes = 1; planes <= 3; planes += 2) {
            BlockPicture x = new BlockPicture();
            Map<Object, Boolean> before = parts(x);
            Scenes.noise(7, 64, 64, planes).accept(x);
            dearCalls(x);
            wrongCalls(x);
            Map<Object, Boolean> behind = parts(x);
            CHECKS.same("objects and arrays behind all calls", behind.size(), before.size());
            CHECKS.isTrue("they are the same ones", before.keySet().containsAll(behind.keySet()));
        }
    }

    private static long bytesMade(Consumer<BlockPicture> calls, BlockPicture x) {
        ThreadMXBean meter = (ThreadMXBean) ManagementFactory.getThreadMXBean();
        long before = meter.getCurrentThreadAllocatedBytes();
        calls.accept(x);
        return meter.getCurrentThreadAllocatedBytes() - before;
    }

    /** Measured at the second object: at the first one the machine makes things of its own, classes and the like. */
    private static void nothingIsMade() {
        if (!(ManagementFactory.getThreadMXBean() instanceof ThreadMXBean meter) || !meter.isThreadAllocatedMemorySupported()) {
            System.out.println("RoomTest: this machine does not tell what calls make");
            return;
        }
        long dear = 0;
        long wrong = 0;
        for (int i = 0; i < 2; i++) {
            BlockPicture x = Checks.with(Scenes.noise(9, 64, 64, 3));
            dear = bytesMade(RoomTest::dearCalls, x);
            wrong = bytesMade(RoomTest::wrongCalls, x);
        }
        System.out.println("RoomTest: right calls made " + dear + " bytes, wrong ones " + wrong);
        CHECKS.isTrue("right calls make nothing, not " + dear + " bytes", dear < EXCEPTION_BYTES);
        CHECKS.isTrue("wrong calls make an exception each, not " + wrong + " bytes in all", wrong < 9 * EXCEPTION_BYTES);
    }

    /** No line but a field's, or that of Row's constructor, makes anything but an exception. */
    private static void rowsInConstructors() throws Exception {
        for (String line : Files.readAllLines(Path.of("src/main/java/BlockPicture.java"))) {
            String code = line.trim();
            if (code.startsWith("//") || code.startsWith("*") || code.startsWith("/*")) {
                continue;
            }
            boolean makes = code.matches(".*\\bnew\\b.*") && !code.startsWith("throw new ")
                    || code.contains("copyOf") || code.contains("clone(");
            CHECKS.isTrue("made in a constructor: " + code,
                    !makes || code.startsWith("private ") || code.equals("bytes = new int[Math.max(0, most)];"));
        }
    }
}
