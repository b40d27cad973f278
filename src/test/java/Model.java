import java.util.Arrays;

/**
 * The whole face once more, in its plainest form: what each call answers ("" if nothing, or the exception's name behind
 * throws.), by the document's words; what must be reckoned or read is Plain's and PlainReader's.
 */
final class Model {
    static final String NOTHING = "";
    static final String INDEX = "throws.IndexOutOfBoundsException";
    static final String ARGUMENT = "throws.IllegalArgumentException";
    static final String STATE = "throws.IllegalStateException";

    /** By plane, row, column. */
    int[][][] canvas = new int[1][8][8];
    int[] out = {};
    int[] tape = {};
    /** What was packed; the PICTURE and its samples; null if there is none. */
    Plain packed;
    Plain picture;
    private int[][][] shown;
    private final int[][] tables = new int[2][64];
    private int place = -1;

    Model() {
        Arrays.fill(tables[0], 1);
        Arrays.fill(tables[1], 1);
    }

    private static boolean in(long n, long least, long most) {
        return n >= least && n <= most;
    }

    private static String told(int answer) {
        return String.valueOf(answer);
    }

    int width() {
        return canvas[0][0].length;
    }

    int height() {
        return canvas[0].length;
    }

    String canvas(int width, int height, int planes) {
        if (!in(width, 1, 64) || !in(height, 1, 64) || planes != 1 && planes != 3) {
            return ARGUMENT;
        }
        canvas = new int[planes][height][width];
        return NOTHING;
    }

    String slope(int x, int y, int wide, int high, int c, int d) {
        boolean there = in(x, 0, width() - 1) && in(y, 0, height() - 1) && wide >= 1 && high >= 1
                && (long) x + wide <= width() && (long) y + high <= height();
        if (!there) {
            return INDEX;
        }
        int[] shifts = canvas.length == 1 ? new int[] {0} : new int[] {16, 8, 0};
        for (int plane = 0; plane < canvas.length; plane++) {
            int p = c >>> shifts[plane] & 0xFF;
            int q = d >>> shifts[plane] & 0xFF;
            for (int row = y; row < y + high; row++) {
                for (int i = 0; i < wide; i++) {
                    canvas[plane][row][x + i] = p + (q - p) * i / wide;
                }
            }
        }
        return NOTHING;
    }

    String at(int x, int y, int plane) {
        boolean there = in(x, 0, width() - 1) && in(y, 0, height() - 1) && in(plane, 0, canvas.length - 1);
        return there ? told(canvas[plane][y][x]) : INDEX;
    }

    String scale(int t, int a, int b) {
        if (!in(t, 0, 1) || !in(a, -1000, 1000) || !in(b, -1000, 1000)) {
            return ARGUMENT;
        }
        for (int v = 0; v < 8; v++) {
            for (int u = 0; u < 8; u++) {
                tables[t][8 * v + u] = Math.max(1, Math.min(255, a + b * (v + u)));
            }
        }
        return NOTHING;
    }

    String entry(int t, int v, int u, int e) {
        if (!in(v, 0, 7) || !in(u, 0, 7)) {
            return INDEX;
        }
        if (!in(t, 0, 1) || !in(e, 1, 255)) {
            return ARGUMENT;
        }
        tables[t][8 * v + u] = e;
        return NOTHING;
    }

    String pack(int across, int down, int interval) {
        if (!in(across, 1, 2) || !in(down, 1, 2) || !in(interval, 0, 65535)) {
            return ARGUMENT;
        }
        packed = Plain.pack(canvas, tables, across, down, interval);
        out = packed.row.row();
        return told(out.length);
    }

    String out(int i) {
        return in(i, 0, out.length - 1) ? told(out[i]) : INDEX;
    }

    String feed(int... fives) {
        if (tape.length + 20 > 32768) {
            return STATE;
        }
        int before = tape.length;
        tape = Arrays.copyOf(tape, before + 20);
        for (int i = 0; i < 20; i++) {
            tape[before + i] = fives[i / 4] >>> 8 * (3 - i % 4) & 0xFF;
        }
        return told(tape.length);
    }

    String end(int n) {
        if (!in(n, 0, tape.length)) {
            return ARGUMENT;
        }
        tape = Arrays.copyOf(tape, n);
        return NOTHING;
    }

    String change(int i, int by) {
        if (!in(i, 0, tape.length - 1)) {
            return INDEX;
        }
        if (!in(by, 0, 255)) {
            return ARGUMENT;
        }
        tape[i] ^= by;
        return told(tape[i]);
    }

    String turn() {
        if (out.length > 32768) {
            return STATE;
        }
        tape = out.clone();
        return told(tape.length);
    }

    String unpack() {
        PlainReader read = new PlainReader(tape);
        place = read.place;
        if (read.fault == 0) {
            picture = read.picture;
            shown = picture.show(read.tablesUsed);
        }
        return told(read.fault);
    }

    String place() {
        return told(place);
    }

    String about(int what) {
        if (!in(what, 0, 2)) {
            return ARGUMENT;
        }
        return picture == null ? STATE : told(new int[] {picture.width, picture.height, picture.levels.length}[what]);
    }

    String sample(int x, int y, int plane) {
        if (picture == null) {
            return STATE;
        }
        boolean there = in(x, 0, picture.width - 1) && in(y, 0, picture.height - 1) && in(plane, 0, shown.length - 1);
        return there ? told(shown[plane][y][x]) : INDEX;
    }

    String level(int which, int layer, int block, int k) {
        if (!in(which, 0, 1)) {
            return ARGUMENT;
        }
        Plain asked = which == 0 ? packed : picture;
        if (asked == null) {
            return STATE;
        }
        boolean there = in(layer, 0, asked.levels.length - 1) && in(block, 0, asked.levels[layer].length - 1) && in(k, 0, 63);
        return there ? told(asked.levels[layer][block][k]) : INDEX;
    }

    String take() {
        if (picture == null) {
            return STATE;
        }
        canvas = new int[shown.length][picture.height][];
        for (int plane = 0; plane < shown.length; plane++) {
            for (int y = 0; y < picture.height; y++) {
                canvas[plane][y] = shown[plane][y].clone();
            }
        }
        return NOTHING;
    }
}
