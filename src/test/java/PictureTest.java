/** Promises 16 to 20: place, about, sample, level, take; which exception comes first, and what stays. */
public final class PictureTest {
    private static final Class<?> INDEX = IndexOutOfBoundsException.class;
    private static final Class<?> ARGUMENT = IllegalArgumentException.class;
    private static final Class<?> STATE = IllegalStateException.class;
    private static final Checks CHECKS = new Checks("PictureTest");

    public static void main(String[] args) {
        noPicture();
        wrongQuestions();
        pictureStays();
        takes();
        places();
        greatLevels();
        CHECKS.finish();
    }

    private static void noPicture() {
        BlockPicture x = new BlockPicture();
        x.fill(0, 0, 8, 8, 50);
        CHECKS.fails("about(0)", STATE, () -> x.about(0));
        CHECKS.fails("about(3)", ARGUMENT, () -> x.about(3));
        CHECKS.fails("sample(0, 0, 0)", STATE, () -> x.sample(0, 0, 0));
        CHECKS.fails("sample(-1, 0, 9)", STATE, () -> x.sample(-1, 0, 9));
        CHECKS.fails("level(0, ..)", STATE, () -> x.level(0, 0, 0, 0));
        CHECKS.fails("level(1, ..)", STATE, () -> x.level(1, -1, 0, 99));
        CHECKS.fails("level(2, ..)", ARGUMENT, () -> x.level(2, -1, 0, 99));
        CHECKS.fails("level(-1, ..)", ARGUMENT, () -> x.level(-1, 0, 0, 0));
        CHECKS.fails("take()", STATE, x::take);
        CHECKS.same("the canvas stays", x.at(7, 7, 0), 50);
        x.unpack();
        CHECKS.fails("about(0) when unpack() failed", STATE, () -> x.about(0));
        CHECKS.fails("take() when unpack() failed", STATE, x::take);
        x.pack(1, 1, 0);
        CHECKS.fails("level(1, ..) when only pack() was called", STATE, () -> x.level(1, 0, 0, 0));
        x.turn();
        CHECKS.fails("sample(..) when only turn() was called", STATE, () -> x.sample(0, 0, 0));
    }

    private static BlockPicture colours() {
        BlockPicture x = new BlockPicture();
        x.canvas(11, 18, 3);
        x.slope(0, 0, 11, 18, 0xFF2010, 0x10C0FF);
        x.pack(2, 1, 0);
        x.turn();
        CHECKS.same("unpack()", x.unpack(), 0);
        return x;
    }

    private static void wrongQuestions() {
        BlockPicture x = colours();
        int most = Integer.MAX_VALUE;
        int least = Integer.MIN_VALUE;
        CHECKS.same("about(0)", x.about(0), 11);
        CHECKS.same("about(1)", x.about(1), 18);
        CHECKS.same("about(2)", x.about(2), 3);
        for (int what : new int[] {-1, 3, most, least}) {
            CHECKS.fails("about(" + what + ")", ARGUMENT, () -> x.about(what));
        }
        int[][] samples = {{-1, 0, 0}, {11, 0, 0}, {0, -1, 0}, {0, 18, 0}, {0, 0, -1}, {0, 0, 3}, {most, 0, 0}, {0, least, 0}, {0, 0, most}};
        for (int[] w : samples) {
            CHECKS.fails("sample(" + w[0] + ", " + w[1] + ", " + w[2] + ")", INDEX, () -> x.sample(w[0], w[1], w[2]));
        }
        int[][] levels = {{-1, 0, 0}, {3, 0, 0}, {0, -1, 0}, {0, 6, 0}, {1, 3, 0}, {2, 3, 0}, {0, 0, -1}, {0, 0, 64},
            {most, 0, 0}, {least, 0, 0}, {0, most, 0}, {0, least, 0}, {0, 0, most}, {0, 0, least}};
        for (int[] w : levels) {
            for (int which = 0; which < 2; which++) {
                int side = which;
                CHECKS.fails("level(" + which + ", " + w[0] + ", " + w[1] + ", " + w[2] + ")", INDEX,
                        () -> x.level(side, w[0], w[1], w[2]));
            }
            CHECKS.fails("level(7, ..): which first", ARGUMENT, () -> x.level(7, w[0], w[1], w[2]));
        }
        CHECKS.same("the last block of the first layer", x.level(1, 0, 5, 0), x.level(0, 0, 5, 0));
        CHECKS.same("the last block of the last layer", x.level(1, 2, 2, 63), x.level(0, 2, 2, 63));
    }

    private static void pictureStays() {
        BlockPicture x = colours();
        int sample = x.sample(10, 17, 2);
        int level = x.level(1, 1, 2, 0);
        // Cut where all but the last MARK was right: most of another picture has been made by then.
        x.canvas(64, 64, 1);
        x.pack(1, 1, 0);
        x.turn();
        x.end(x.size() - 1);
        CHECKS.same("unpack() of the cut TAPE", x.unpack(), 1);
        CHECKS.same("place()", x.place(), x.size() - 1);
        CHECKS.same("about(0) stays", x.about(0), 11);
        CHECKS.same("about(2) stays", x.about(2), 3);
        CHECKS.same("a sample stays", x.sample(10, 17, 2), sample);
        CHECKS.same("a level stays", x.level(1, 1, 2, 0), level);
        CHECKS.same("a sample that was not asked for before", x.sample(0, 0, 0), colours().sample(0, 0, 0));
        x.turn();
        CHECKS.same("unpack()", x.unpack(), 0);
        CHECKS.same("place()", x.place(), -1);
        CHECKS.same("about(0) of the next one", x.about(0), 64);
        CHECKS.same("a sample of the next one", x.sample(63, 63, 0), 0);
        CHECKS.fails("a plane that it has not", INDEX, () -> x.sample(0, 0, 1));
        CHECKS.fails("a layer that it has not", INDEX, () -> x.level(1, 1, 0, 0));
    }

    private static void takes() {
        BlockPicture x = colours();
        x.canvas(64, 64, 1);
        x.fill(0, 0, 64, 64, 255);
        x.take();
        CHECKS.same("a sample of the canvas", x.at(10, 17, 2), x.sample(10, 17, 2));
        CHECKS.same("a sample of the canvas", x.at(0, 0, 0), x.sample(0, 0, 0));
        CHECKS.fails("the canvas is as wide", INDEX, () -> x.at(11, 0, 0));
        CHECKS.fails("the canvas is as high", INDEX, () -> x.at(0, 18, 0));
        CHECKS.fails("the canvas has as many planes", INDEX, () -> x.at(0, 0, 3));
        int sample = x.sample(3, 3, 1);
        x.fill(0, 0, 11, 18, 0);
        CHECKS.same("the picture stays", x.sample(3, 3, 1), sample);
        x.take();
        CHECKS.same("and can be taken again", x.at(3, 3, 1), sample);
    }

    private static void places() {
        BlockPicture x = new BlockPicture();
        CHECKS.same("place() before any unpack()", x.place(), -1);
        Rows.type(x, 255, 216, 7);
        CHECKS.same("unpack()", x.unpack(), 2);
        CHECKS.same("place()", x.place(), 2);
        x.end(0);
        x.pack(1, 1, 0);
        x.turn();
        CHECKS.same("place() stays", x.place(), 2);
        x.unpack();
        CHECKS.same("place() of an unpack() that was right", x.place(), -1);
        x.end(1);
        x.unpack();
        CHECKS.same("place() of the latest unpack()", x.place(), 1);
    }

    /** Levels and entries so great that sums of them are beyond an int. */
    private static void greatLevels() {
        int[][] all = new int[4][64];
        for (int k = 0; k < 64; k++) {
            all[0][k] = k == 0 ? 2047 : 1023;
            all[1][k] = k == 0 ? -2047 : -1023;
            all[2][k] = k == 0 ? 0 : k % 2 == 0 ? 1023 : -1023;
            all[3][k] = k == 0 ? 2047 : -1023;
        }
        for (int[] levels : all) {
            Plain due = new Plain(8, 8, new int[][] {{1, 1}});
            due.levels[0][0] = levels;
            BlockPicture x = new BlockPicture();
            new Rows().mark(216).table(2, 255).starts(1).rests(1).frame(8, 8, 9, 34, 2).scan(9, 17)
                    .block(0, levels).fillByte('0').mark(217).type(x);
            CHECKS.same("unpack() of great levels", x.unpack(), 0);
            int[] table = new int[64];
            java.util.Arrays.fill(table, 255);
            int[][][] samples = due.show(new int[][] {table});
            for (int i = 0; i < 64; i++) {
                CHECKS.same("a sample of great levels", x.sample(i % 8, i / 8, 0), samples[0][i / 8][i % 8]);
            }
        }
    }
}
