/** Promises 1 to 5: a new object, canvas, fill, slope, at. */
public final class CanvasTest {
    private static final Class<?> INDEX = IndexOutOfBoundsException.class;
    private static final Class<?> ARGUMENT = IllegalArgumentException.class;
    private static final Checks CHECKS = new Checks("CanvasTest");

    public static void main(String[] args) {
        newObject();
        canvasSizes();
        wrongCanvases();
        fills();
        wrongRectangles();
        slopes();
        slopesOfEachWidth();
        wrongSamples();
        CHECKS.finish();
    }

    private static void newObject() {
        BlockPicture x = new BlockPicture();
        CHECKS.same("NONE", BlockPicture.NONE, -1);
        CHECKS.same("size() of a new object", x.size(), 0);
        CHECKS.same("place() of a new object", x.place(), -1);
        for (int i = 0; i < 64; i++) {
            CHECKS.same("a new sample", x.at(i % 8, i / 8, 0), 0);
        }
        CHECKS.fails("at(8, 0, 0)", INDEX, () -> x.at(8, 0, 0));
        CHECKS.fails("at(0, 8, 0)", INDEX, () -> x.at(0, 8, 0));
        CHECKS.fails("at(0, 0, 1)", INDEX, () -> x.at(0, 0, 1));
        CHECKS.fails("out(0)", INDEX, () -> x.out(0));
        CHECKS.fails("change(0, 0)", INDEX, () -> x.change(0, 0));
        CHECKS.fails("end(1)", ARGUMENT, () -> x.end(1));
        CHECKS.same("turn() of an empty OUT", x.turn(), 0);
    }

    private static void canvasSizes() {
        BlockPicture x = new BlockPicture();
        x.fill(0, 0, 8, 8, -1);
        x.canvas(64, 64, 3);
        for (int plane = 0; plane < 3; plane++) {
            CHECKS.same("a new canvas", x.at(0, 0, plane), 0);
            CHECKS.same("a new canvas", x.at(63, 63, plane), 0);
            CHECKS.same("a new canvas", x.at(7, 7, plane), 0);
        }
        x.canvas(1, 64, 1);
        x.fill(0, 63, 1, 1, 9);
        CHECKS.same("the last row", x.at(0, 63, 0), 9);
        CHECKS.fails("at(1, 0, 0)", INDEX, () -> x.at(1, 0, 0));
        CHECKS.fails("at(0, 0, 1) of one plane", INDEX, () -> x.at(0, 0, 1));
        x.canvas(64, 1, 1);
        CHECKS.same("a sample is 0 again", x.at(0, 0, 0), 0);
        CHECKS.fails("at(0, 1, 0)", INDEX, () -> x.at(0, 1, 0));
    }

    private static void wrongCanvases() {
        BlockPicture x = new BlockPicture();
        x.fill(0, 0, 8, 8, 77);
        int[][] wrong = {{0, 8, 1}, {65, 8, 1}, {8, 0, 1}, {8, 65, 1}, {8, 8, 0}, {8, 8, 2}, {8, 8, 4}, {-1, 8, 1},
            {8, Integer.MIN_VALUE, 3}, {Integer.MAX_VALUE, 1, 1}, {8, 8, -1}};
        for (int[] w : wrong) {
            CHECKS.fails("canvas(" + w[0] + ", " + w[1] + ", " + w[2] + ")", ARGUMENT, () -> x.canvas(w[0], w[1], w[2]));
        }
        CHECKS.same("a wrong canvas changes nothing", x.at(7, 7, 0), 77);
    }

    private static void fills() {
        BlockPicture x = new BlockPicture();
        x.fill(2, 3, 4, 2, 0x1234FF07);
        for (int i = 0; i < 64; i++) {
            boolean within = i % 8 >= 2 && i % 8 < 6 && i / 8 >= 3 && i / 8 < 5;
            CHECKS.same("of one plane the lowest byte", x.at(i % 8, i / 8, 0), within ? 7 : 0);
        }
        x.canvas(5, 4, 3);
        x.fill(4, 3, 1, 1, 0x99112233);
        CHECKS.same("red", x.at(4, 3, 0), 0x11);
        CHECKS.same("green", x.at(4, 3, 1), 0x22);
        CHECKS.same("blue", x.at(4, 3, 2), 0x33);
        CHECKS.same("a sample beside it", x.at(3, 3, 2), 0);
        x.fill(0, 0, 5, 4, -1);
        CHECKS.same("all bytes", x.at(0, 3, 1), 255);
    }

    private static void wrongRectangles() {
        BlockPicture x = new BlockPicture();
        x.canvas(6, 5, 1);
        int most = Integer.MAX_VALUE;
        int least = Integer.MIN_VALUE;
        int[][] wrong = {{-1, 0, 1, 1}, {0, -1, 1, 1}, {6, 0, 1, 1}, {0, 5, 1, 1}, {0, 0, 7, 1}, {0, 0, 1, 6}, {0, 0, 0, 1},
            {0, 0, 1, 0}, {3, 0, 4, 1}, {0, 2, 1, 4}, {1, 0, most, 1}, {0, 1, 1, most}, {most, 0, 1, 1}, {most, most, most, most},
            {least, 0, 1, 1}, {0, least, 1, 1}, {0, 0, least, 1}, {0, 0, 1, least}, {-1, 0, 2, 1}, {6, 0, 0, 1}};
        for (int[] w : wrong) {
            String where = "(" + w[0] + ", " + w[1] + ", " + w[2] + ", " + w[3];
            CHECKS.fails("fill" + where, INDEX, () -> x.fill(w[0], w[1], w[2], w[3], 5));
            CHECKS.fails("slope" + where, INDEX, () -> x.slope(w[0], w[1], w[2], w[3], 5, 6));
        }
        for (int i = 0; i < 30; i++) {
            CHECKS.same("wrong rectangles change nothing", x.at(i % 6, i / 6, 0), 0);
        }
        x.fill(0, 0, 6, 5, 1);
        CHECKS.same("the whole canvas", x.at(5, 4, 0), 1);
    }

    private static void slopes() {
        BlockPicture x = new BlockPicture();
        x.canvas(20, 3, 3);
        x.slope(1, 1, 12, 2, 0xFF0010, 0x00FF13);
        for (int i = 0; i < 12; i++) {
            CHECKS.same("falling, cut off", x.at(1 + i, 1, 0), 255 - 255 * i / 12);
            CHECKS.same("rising", x.at(1 + i, 2, 1), 255 * i / 12);
            CHECKS.same("rising a little", x.at(1 + i, 1, 2), 16 + 3 * i / 12);
        }
        CHECKS.same("before it", x.at(0, 1, 0), 0);
        CHECKS.same("behind it", x.at(13, 1, 1), 0);
        CHECKS.same("above it", x.at(1, 0, 0), 0);
        CHECKS.same("255 less 21, not 233", x.at(2, 1, 0), 234);
        x.canvas(3, 1, 1);
        x.slope(0, 0, 3, 1, 10, 0);
        CHECKS.same("10 less 3", x.at(1, 0, 0), 7);
        CHECKS.same("10 less 6", x.at(2, 0, 0), 4);
        x.slope(2, 0, 1, 1, 0xAB05, 0xCD09);
        CHECKS.same("of one column the first byte", x.at(2, 0, 0), 5);
    }

    /** "p + (q - p) * i / wide (cut off)": rising, falling, even, by one, and from and to the bounds, of each width. */
    private static void slopesOfEachWidth() {
        int[][] pairs = {{0, 255}, {255, 0}, {0, 1}, {1, 0}, {254, 255}, {255, 254}, {77, 77}, {0, 0}, {255, 255}, {200, 3}, {3, 200}};
        for (int wide = 1; wide <= 64; wide++) {
            for (int[] p : pairs) {
                BlockPicture x = new BlockPicture();
                x.canvas(64, 2, 1);
                x.slope(64 - wide, 1, wide, 1, p[0], p[1]);
                for (int i = 0; i < 64; i++) {
                    int column = i - (64 - wide);
                    int part = Math.abs(p[1] - p[0]) * column / wide;
                    int due = column < 0 ? 0 : p[1] < p[0] ? p[0] - part : p[0] + part;
                    CHECKS.same("column " + column + " of " + wide, x.at(i, 1, 0), due);
                    CHECKS.same("above it", x.at(i, 0, 0), 0);
                }
            }
        }
    }

    private static void wrongSamples() {
        BlockPicture x = new BlockPicture();
        x.canvas(9, 10, 3);
        int[][] wrong = {{-1, 0, 0}, {9, 0, 0}, {0, -1, 0}, {0, 10, 0}, {0, 0, -1}, {0, 0, 3}, {Integer.MAX_VALUE, 0, 0},
            {0, Integer.MIN_VALUE, 0}, {0, 0, Integer.MAX_VALUE}};
        for (int[] w : wrong) {
            CHECKS.fails("at(" + w[0] + ", " + w[1] + ", " + w[2] + ")", INDEX, () -> x.at(w[0], w[1], w[2]));
        }
        CHECKS.same("the last sample", x.at(8, 9, 2), 0);
    }
}
