import java.util.Arrays;
import java.util.function.Supplier;

/** Promises 1 to 20 together: runs of 512 calls at will on one object each, every answer compared with Model's. */
public final class RunsTest {
    private static final Checks CHECKS = new Checks("RunsTest");
    private static final int RUNS = 120;
    private static final int CALLS = 512;
    private static final int[] FAR = {Integer.MIN_VALUE, -65536, -256, -2, 256, 65536, Integer.MAX_VALUE};

    private final Scenes numbers;
    private final int run;
    private final BlockPicture x = new BlockPicture();
    private final Model due = new Model();
    private final StringBuilder latest = new StringBuilder();
    private int calls;
    private boolean right = true;

    private RunsTest(int run) {
        this.run = run;
        numbers = new Scenes(7_000 + run);
    }

    public static void main(String[] args) {
        for (int run = 0; run < RUNS; run++) {
            new RunsTest(run).go();
        }
        CHECKS.finish();
    }

    private interface Nothing {
        void call();
    }

    /** A wrong answer ends the run: those behind it would tell the same once more. */
    private void compare(String call, Supplier<String> wanted, Supplier<String> asked) {
        if (!right || calls == CALLS) {
            return;
        }
        calls++;
        latest.append(' ').append(call);
        String want = wanted.get();
        String got = answer(asked);
        right = got.equals(want);
        CHECKS.isTrue("run " + run + ", call " + calls + ", " + call + " answered '" + got + "', due is '" + want + "'; before it"
                + latest.substring(Math.max(0, latest.length() - 600)) + ": this", right);
    }

    private void compareVoid(String call, Supplier<String> wanted, Nothing asked) {
        compare(call, wanted, () -> {
            asked.call();
            return Model.NOTHING;
        });
    }

    private static String answer(Supplier<String> asked) {
        try {
            return asked.get();
        } catch (RuntimeException e) {
            return "throws." + e.getClass().getSimpleName();
        }
    }

    private static String call(String name, int... a) {
        return name + Arrays.toString(a).replace('[', '(').replace(']', ')');
    }

    /** Mostly from least to most, at times just beyond it, or far from it. */
    private int some(int least, int most) {
        switch (numbers.next(60)) {
            case 0:
                return least - 1;
            case 1:
                return most + 1;
            case 2:
                return FAR[numbers.next(FAR.length)];
            case 3, 4:
                return most;
            case 5, 6:
                return least;
            default:
                return most < least ? least : least + numbers.next(most - least + 1);
        }
    }

    private void go() {
        ask();
        while (right && calls < CALLS) {
            switch (numbers.next(12)) {
                case 0, 1, 2 -> paint();
                case 3 -> changeTables();
                case 4, 5 -> pack();
                case 6 -> turnAndUnpack();
                case 7 -> typeRow();
                case 8, 9 -> spoilTape();
                case 10 -> compareVoid("take()", due::take, x::take);
                default -> unpack();
            }
            ask();
        }
    }

    private void paint() {
        if (numbers.next(3) == 0) {
            int most = numbers.next(6) == 0 ? 64 : 18;
            int width = some(1, most);
            int height = some(1, most);
            int planes = numbers.next(12) == 0 ? numbers.next(6) - 1 : 1 + 2 * numbers.next(2);
            compareVoid(call("canvas", width, height, planes), () -> due.canvas(width, height, planes), () -> x.canvas(width, height, planes));
        }
        for (int i = numbers.next(5); i > 0; i--) {
            paintRectangle();
        }
    }

    private void paintRectangle() {
        int left = some(0, due.width() - 1);
        int top = some(0, due.height() - 1);
        int wide = some(1, due.width() - Math.max(0, Math.min(left, due.width() - 1)));
        int high = some(1, due.height() - Math.max(0, Math.min(top, due.height() - 1)));
        int c = numbers.next(1 << 30) * 5;
        int d = numbers.next(1 << 30) * 5;
        if (numbers.next(2) == 0) {
            compareVoid(call("fill", left, top, wide, high, c), () -> due.slope(left, top, wide, high, c, c), () -> x.fill(left, top, wide, high, c));
        } else {
            compareVoid(call("slope", left, top, wide, high, c, d), () -> due.slope(left, top, wide, high, c, d), () -> x.slope(left, top, wide, high, c, d));
        }
    }

    private void changeTables() {
        int t = some(0, 1);
        if (numbers.next(3) > 0) {
            int reach = numbers.next(4) == 0 ? 1000 : 30;
            int a = numbers.next(4) == 0 ? some(-1000, 1000) : some(1, reach);
            int b = some(-reach, reach);
            compareVoid(call("scale", t, a, b), () -> due.scale(t, a, b), () -> x.scale(t, a, b));
            return;
        }
        int v = some(0, 7);
        int u = some(0, 7);
        int e = some(1, 255);
        compareVoid(call("entry", t, v, u, e), () -> due.entry(t, v, u, e), () -> x.entry(t, v, u, e));
    }

    private void pack() {
        int across = some(1, 2);
        int down = some(1, 2);
        int interval = numbers.next(8) == 0 ? some(0, 65535) : some(0, 5);
        compare(call("pack", across, down, interval), () -> due.pack(across, down, interval), () -> "" + x.pack(across, down, interval));
        for (int n = numbers.next(8); n > 0; n--) {
            int i = some(0, due.out.length - 1);
            compare(call("out", i), () -> due.out(i), () -> "" + x.out(i));
        }
    }

    private void turnAndUnpack() {
        compare("turn()", due::turn, () -> "" + x.turn());
        if (numbers.next(4) > 0) {
            unpack();
        }
    }

    private void unpack() {
        compare("unpack()", due::unpack, () -> "" + x.unpack());
        compare("place()", due::place, () -> "" + x.place());
    }

    private void feed(int a, int b, int c, int d, int e) {
        compare(call("feed", a, b, c, d, e), () -> due.feed(a, b, c, d, e), () -> "" + x.feed(a, b, c, d, e));
    }

    private void end(int n) {
        compareVoid(call("end", n), () -> due.end(n), () -> x.end(n));
    }

    /** A row made at will, if it is short enough that the run has calls left behind it. */
    private void typeRow() {
        int[] row = new RandomRow(numbers.next(1 << 20), 8 + numbers.next(10)).row.row();
        if (row.length > 1800) {
            return;
        }
        end(0);
        int[] words = new int[(row.length + 19) / 20 * 5];
        for (int i = 0; i < row.length; i++) {
            words[i / 4] |= row[i] << 24 - 8 * (i % 4);
        }
        for (int i = 0; i < words.length; i += 5) {
            feed(words[i], words[i + 1], words[i + 2], words[i + 3], words[i + 4]);
        }
        if (numbers.next(5) > 0) {
            end(row.length);
        }
        unpack();
    }

    private void spoilTape() {
        switch (numbers.next(6)) {
            case 0:
                end(some(0, due.tape.length));
                break;
            case 1:
                feed(numbers.next(1 << 30) * 5, numbers.next(1 << 30) * 5, -1, 0, numbers.next(1 << 30) * 5);
                break;
            default:
                for (int n = 1 + numbers.next(2); n > 0; n--) {
                    int near = numbers.next(2) == 0 ? Math.min(250, due.tape.length) : due.tape.length;
                    int i = some(0, near - 1);
                    int by = numbers.next(3) == 0 ? some(0, 255) : 1 << numbers.next(8);
                    compare(call("change", i, by), () -> due.change(i, by), () -> "" + x.change(i, by));
                }
        }
        if (numbers.next(4) > 0) {
            unpack();
        }
    }

    private void ask() {
        for (int n = numbers.next(6); n > 0; n--) {
            switch (numbers.next(8)) {
                case 0 -> compare("size()", () -> "" + due.out.length, () -> "" + x.size());
                case 1 -> compare("place()", due::place, () -> "" + x.place());
                case 2 -> askAbout();
                case 3, 4 -> askLevel();
                case 5 -> askAt();
                default -> askSample();
            }
        }
    }

    private void askAbout() {
        int what = some(0, 2);
        compare(call("about", what), () -> due.about(what), () -> "" + x.about(what));
    }

    private void askAt() {
        int left = some(0, due.width() - 1);
        int top = some(0, due.height() - 1);
        int plane = some(0, due.canvas.length - 1);
        compare(call("at", left, top, plane), () -> due.at(left, top, plane), () -> "" + x.at(left, top, plane));
    }

    private void askSample() {
        int left = some(0, due.picture == null ? 7 : due.picture.width - 1);
        int top = some(0, due.picture == null ? 7 : due.picture.height - 1);
        int plane = some(0, due.picture == null ? 0 : due.picture.levels.length - 1);
        compare(call("sample", left, top, plane), () -> due.sample(left, top, plane), () -> "" + x.sample(left, top, plane));
    }

    private void askLevel() {
        int which = some(0, 1);
        Plain asked = which == 0 ? due.packed : due.picture;
        int layer = some(0, asked == null ? 0 : asked.levels.length - 1);
        boolean there = asked != null && layer >= 0 && layer < asked.levels.length;
        int block = some(0, there ? asked.levels[layer].length - 1 : 0);
        int k = some(0, numbers.next(2) == 0 ? 9 : 63);
        compare(call("level", which, layer, block, k), () -> due.level(which, layer, block, k), () -> "" + x.level(which, layer, block, k));
    }
}
