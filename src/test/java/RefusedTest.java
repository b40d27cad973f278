import java.lang.reflect.Array;
import java.lang.reflect.Field;
import java.lang.reflect.Modifier;
import java.util.ArrayList;
import java.util.IdentityHashMap;
import java.util.List;
import java.util.Map;
import java.util.function.Consumer;
import java.util.function.Function;

/**
 * "A call that throws changes nothing; of several exceptions the one named first is thrown": every call with all
 * arguments at both sides of their bounds, and the least and greatest int, also when several are wrong at once.
 */
public final class RefusedTest {
    private static final Checks CHECKS = new Checks("RefusedTest");
    private static final int LEAST = Integer.MIN_VALUE;
    private static final int MOST = Integer.MAX_VALUE;
    private static final String INDEX = "IndexOutOfBoundsException";
    private static final String ARGUMENT = "IllegalArgumentException";
    private static final String STATE = "IllegalStateException";
    private static final String RIGHT = "";
    private static final int CALLS = 300;

    /** What an object has had before, and what it has then. */
    private record State(String name, Consumer<BlockPicture> setup, int width, int height, int planes, int out, int tape,
            Plain packed, Plain picture) { }

    private interface Call {
        void on(BlockPicture x, int[] a);
    }

    private static final List<State> STATES = new ArrayList<>();

    public static void main(String[] args) throws Exception {
        makeStates();
        for (State s : STATES) {
            canvases(s);
            rectangles(s);
            tables(s);
            packs(s);
            tapes(s);
            questions(s);
        }
        refusedUnpack();
        CHECKS.finish();
    }

    private static void makeStates() {
        STATES.add(new State("new", x -> { }, 8, 8, 1, 0, 0, null, null));
        Consumer<BlockPicture> grey = x -> {
            x.canvas(17, 9, 1);
            x.slope(0, 0, 17, 9, 3, 250);
            x.pack(2, 2, 1);
            x.feed(1, 2, 3, 4, 5);
        };
        int size = Checks.with(grey).size();
        Plain packed = new Plain(17, 9, new int[][] {{2, 2}});
        STATES.add(new State("packed", grey, 17, 9, 1, size, 20, packed, null));
        Consumer<BlockPicture> both = grey.andThen(x -> {
            x.turn();
            x.unpack();
            x.canvas(64, 1, 3);
            x.slope(0, 0, 64, 1, 0xFF0102, 0x0304FF);
            x.pack(1, 2, 0);
            x.end(0);
        });
        Plain wide = new Plain(64, 1, new int[][] {{1, 2}, {1, 1}, {1, 1}});
        STATES.add(new State("packed and unpacked", both, 64, 1, 3, Checks.with(both).size(), 0, wide, packed));
        Consumer<BlockPicture> turned = both.andThen(x -> {
            x.turn();
            x.unpack();
            x.take();
            x.canvas(1, 64, 1);
        });
        STATES.add(new State("unpacked of three", turned, 1, 64, 1, Checks.with(both).size(), Checks.with(both).size(), wide, wide));
    }

    /** A number of all fields and elements of an object and its parts: what it holds is the same if that is. */
    private static long held(BlockPicture x) throws IllegalAccessException {
        return held(x, new IdentityHashMap<>());
    }

    private static long held(Object part, Map<Object, Boolean> seen) throws IllegalAccessException {
        if (part == null || seen.put(part, true) != null) {
            return 1;
        }
        long sum = seen.size();
        if (part instanceof int[] row) {
            for (int value : row) {
                sum = 31 * sum + value;
            }
        } else if (part.getClass().isArray()) {
            for (int i = 0; i < Array.getLength(part); i++) {
                Object element = Array.get(part, i);
                sum = 31 * sum + (part instanceof Object[] ? held(element, seen) : element.hashCode());
            }
        } else {
            for (Field field : part.getClass().getDeclaredFields()) {
                if (!Modifier.isStatic(field.getModifiers())) {
                    field.setAccessible(true);
                    Object value = field.get(part);
                    sum = 31 * sum + (field.getType().isPrimitive() ? value.hashCode() : held(value, seen));
                }
            }
        }
        return sum;
    }

    /** All ways to choose one of each row. */
    private static List<int[]> all(int[]... rows) {
        List<int[]> chosen = new ArrayList<>();
        chosen.add(new int[0]);
        for (int[] row : rows) {
            List<int[]> longer = new ArrayList<>();
            for (int[] before : chosen) {
                for (int value : row) {
                    int[] more = java.util.Arrays.copyOf(before, before.length + 1);
                    more[before.length] = value;
                    longer.add(more);
                }
            }
            chosen = longer;
        }
        return chosen;
    }

    /** Both sides of the bounds, and what is far beyond them. */
    private static int[] around(int least, int most) {
        return new int[] {LEAST, least - 1, least, most, most + 1, MOST};
    }

    private static boolean in(int n, int least, int most) {
        return n >= least && n <= most;
    }

    private static String thrown(BlockPicture x, Call call, int[] a) {
        try {
            call.on(x, a);
        } catch (RuntimeException e) {
            return e.getClass().getSimpleName();
        }
        return RIGHT;
    }

    /** Right calls may change an object, so each has one of its own; refused ones may not, so that many can share one. */
    private static void compare(State state, String name, List<int[]> arguments, Function<int[], String> due, Call call) throws Exception {
        BlockPicture shared = null;
        long held = 0;
        int calls = CALLS;
        for (int[] a : arguments) {
            String wanted = due.apply(a);
            if (wanted.equals(RIGHT)) {
                same(state, name, a, thrown(Checks.with(state.setup), call, a), wanted);
                continue;
            }
            if (calls == CALLS) {
                checkHeld(state, name, shared, held);
                shared = Checks.with(state.setup);
                held = held(shared);
                calls = 0;
            }
            same(state, name, a, thrown(shared, call, a), wanted);
            calls++;
        }
        checkHeld(state, name, shared, held);
    }

    private static void checkHeld(State state, String name, BlockPicture x, long held) throws Exception {
        if (x != null) {
            CHECKS.isTrue("refused calls of " + name + " change nothing (" + state.name + ")", held(x) == held);
        }
    }

    private static void same(State state, String name, int[] a, String got, String due) {
        CHECKS.isTrue(name + java.util.Arrays.toString(a) + " (" + state.name + ") threw '" + got + "', due is '" + due + "'", got.equals(due));
    }

    private static void canvases(State s) throws Exception {
        compare(s, "canvas", all(around(1, 64), around(1, 64), new int[] {LEAST, -3, -1, 0, 1, 2, 3, 4, MOST}),
                a -> in(a[0], 1, 64) && in(a[1], 1, 64) && (a[2] == 1 || a[2] == 3) ? RIGHT : ARGUMENT,
                (x, a) -> x.canvas(a[0], a[1], a[2]));
    }

    private static boolean isThere(State s, int[] a) {
        return a[0] >= 0 && a[1] >= 0 && a[2] >= 1 && a[3] >= 1
                && (long) a[0] + a[2] <= s.width && (long) a[1] + a[3] <= s.height;
    }

    private static void rectangles(State s) throws Exception {
        int[] left = {LEAST, -1, 0, 1, s.width - 1, s.width, MOST};
        int[] top = {LEAST, -1, 0, 1, s.height - 1, s.height, MOST};
        int[] wide = {LEAST, -1, 0, 1, 2, s.width - 1, s.width, s.width + 1, MOST - 1, MOST};
        int[] high = {LEAST, -1, 0, 1, 2, s.height - 1, s.height, s.height + 1, MOST - 1, MOST};
        List<int[]> arguments = all(left, top, wide, high);
        compare(s, "fill", arguments, a -> isThere(s, a) ? RIGHT : INDEX, (x, a) -> x.fill(a[0], a[1], a[2], a[3], 0x7F7F7F));
        compare(s, "slope", arguments, a -> isThere(s, a) ? RIGHT : INDEX, (x, a) -> x.slope(a[0], a[1], a[2], a[3], 0x7F7F7F, 0));
        compare(s, "at", all(around(0, s.width - 1), around(0, s.height - 1), around(0, s.planes - 1)),
                a -> in(a[0], 0, s.width - 1) && in(a[1], 0, s.height - 1) && in(a[2], 0, s.planes - 1) ? RIGHT : INDEX,
                (x, a) -> x.at(a[0], a[1], a[2]));
    }

    private static void tables(State s) throws Exception {
        compare(s, "scale", all(around(0, 1), around(-1000, 1000), around(-1000, 1000)),
                a -> in(a[0], 0, 1) && in(a[1], -1000, 1000) && in(a[2], -1000, 1000) ? RIGHT : ARGUMENT,
                (x, a) -> x.scale(a[0], a[1], a[2]));
        compare(s, "entry", all(around(0, 1), around(0, 7), around(0, 7), around(1, 255)),
                a -> !in(a[1], 0, 7) || !in(a[2], 0, 7) ? INDEX : in(a[0], 0, 1) && in(a[3], 1, 255) ? RIGHT : ARGUMENT,
                (x, a) -> x.entry(a[0], a[1], a[2], a[3]));
    }

    private static void packs(State s) throws Exception {
        compare(s, "pack", all(around(1, 2), around(1, 2), new int[] {LEAST, -65536, -1, 0, 1, 65534, 65535, 65536, 131072, MOST}),
                a -> in(a[0], 1, 2) && in(a[1], 1, 2) && in(a[2], 0, 65535) ? RIGHT : ARGUMENT,
                (x, a) -> x.pack(a[0], a[1], a[2]));
        compare(s, "out", all(around(0, s.out - 1)), a -> in(a[0], 0, s.out - 1) ? RIGHT : INDEX, (x, a) -> x.out(a[0]));
    }

    private static void tapes(State s) throws Exception {
        compare(s, "end", all(around(0, s.tape)), a -> in(a[0], 0, s.tape) ? RIGHT : ARGUMENT, (x, a) -> x.end(a[0]));
        compare(s, "change", all(around(0, s.tape - 1), around(0, 255)),
                a -> !in(a[0], 0, s.tape - 1) ? INDEX : in(a[1], 0, 255) ? RIGHT : ARGUMENT, (x, a) -> x.change(a[0], a[1]));
    }

    private static void questions(State s) throws Exception {
        compare(s, "about", all(around(0, 2)), a -> !in(a[0], 0, 2) ? ARGUMENT : s.picture == null ? STATE : RIGHT, (x, a) -> x.about(a[0]));
        int width = s.picture == null ? 8 : s.picture.width;
        int height = s.picture == null ? 8 : s.picture.height;
        int layers = s.picture == null ? 1 : s.picture.levels.length;
        compare(s, "sample", all(around(0, width - 1), around(0, height - 1), around(0, layers - 1)),
                a -> s.picture == null ? STATE
                        : in(a[0], 0, width - 1) && in(a[1], 0, height - 1) && in(a[2], 0, layers - 1) ? RIGHT : INDEX,
                (x, a) -> x.sample(a[0], a[1], a[2]));
        compare(s, "level", all(around(0, 1), new int[] {LEAST, -1, 0, 1, 2, 3, MOST},
                new int[] {LEAST, -1, 0, 3, 4, 7, 8, 9, 15, 16, 17, 63, 64, MOST}, around(0, 63)),
                a -> levelDue(s, a), (x, a) -> x.level(a[0], a[1], a[2], a[3]));
        compare(s, "take", all(), a -> s.picture == null ? STATE : RIGHT, (x, a) -> x.take());
    }

    private static String levelDue(State s, int[] a) {
        if (!in(a[0], 0, 1)) {
            return ARGUMENT;
        }
        Plain asked = a[0] == 0 ? s.packed : s.picture;
        if (asked == null) {
            return STATE;
        }
        boolean there = in(a[1], 0, asked.levels.length - 1) && in(a[2], 0, asked.levels[a[1]].length - 1) && in(a[3], 0, 63);
        return there ? RIGHT : INDEX;
    }

    /** unpack() throws nothing; with a FAULT all but place() stays as it can be seen. */
    private static void refusedUnpack() {
        for (State s : STATES) {
            BlockPicture x = Checks.with(s.setup);
            BlockPicture other = Checks.with(s.setup);
            x.end(0);
            other.end(0);
            CHECKS.same("unpack() of an empty TAPE (" + s.name + ")", x.unpack(), 1);
            CHECKS.same("place() of an empty TAPE (" + s.name + ")", x.place(), 0);
            CHECKS.same("size() stays", x.size(), other.size());
            CHECKS.same("the TAPE stays", x.feed(0, 0, 0, 0, 0), 20);
            CHECKS.same("the canvas stays", x.at(s.width - 1, s.height - 1, s.planes - 1), other.at(s.width - 1, s.height - 1, s.planes - 1));
            if (s.picture != null) {
                CHECKS.same("the picture stays", x.sample(0, 0, 0), other.sample(0, 0, 0));
                CHECKS.same("its levels stay", x.level(1, 0, 0, 1), other.level(1, 0, 0, 1));
            }
            if (s.packed != null) {
                CHECKS.same("what was packed stays", x.level(0, 0, 0, 1), other.level(0, 0, 0, 1));
            }
        }
    }
}
