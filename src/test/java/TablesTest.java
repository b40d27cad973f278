/** Promises 6 and 7: scale, entry. What tables hold is seen in OUT: the entries by THE ROW from byte 7 on. */
public final class TablesTest {
    private static final Class<?> INDEX = IndexOutOfBoundsException.class;
    private static final Class<?> ARGUMENT = IllegalArgumentException.class;
    private static final Checks CHECKS = new Checks("TablesTest");

    public static void main(String[] args) {
        firstTables();
        scales();
        entries();
        wrongScales();
        wrongEntries();
        CHECKS.finish();
    }

    private static int[][] tables(BlockPicture x) {
        int[][] tables = new int[2][64];
        x.canvas(1, 1, 3);
        x.pack(1, 1, 0);
        for (int t = 0; t < 2; t++) {
            for (int k = 0; k < 64; k++) {
                int[] place = Plain.slants().get(k);
                tables[t][8 * place[0] + place[1]] = x.out(7 + 65 * t + k);
            }
        }
        return tables;
    }

    private static int scaled(int a, int b, int i) {
        return Math.max(1, Math.min(255, a + b * (i / 8 + i % 8)));
    }

    private static void firstTables() {
        int[][] tables = tables(new BlockPicture());
        for (int i = 0; i < 64; i++) {
            CHECKS.same("table 0 at first", tables[0][i], 1);
            CHECKS.same("table 1 at first", tables[1][i], 1);
        }
    }

    private static void scales() {
        int[][] pairs = {{3, 2}, {-5, 4}, {1000, -1000}, {-1000, 1000}, {255, 0}, {256, 0}, {0, 0}, {250, 1}, {-1000, -1000},
            {1000, 1000}, {10, -1}};
        for (int[] p : pairs) {
            BlockPicture x = new BlockPicture();
            x.scale(0, p[0], p[1]);
            x.scale(1, p[1], p[0]);
            int[][] tables = tables(x);
            for (int i = 0; i < 64; i++) {
                CHECKS.same("scale(0, " + p[0] + ", " + p[1] + ")", tables[0][i], scaled(p[0], p[1], i));
                CHECKS.same("scale(1, " + p[1] + ", " + p[0] + ")", tables[1][i], scaled(p[1], p[0], i));
            }
        }
    }

    private static void entries() {
        BlockPicture x = new BlockPicture();
        for (int i = 0; i < 64; i++) {
            x.entry(1, i / 8, i % 8, 255 - i);
        }
        x.entry(0, 0, 7, 255);
        x.entry(0, 7, 0, 1);
        x.entry(0, 7, 1, 2);
        int[][] tables = tables(x);
        for (int i = 0; i < 64; i++) {
            CHECKS.same("table 1 by entries", tables[1][i], 255 - i);
            CHECKS.same("table 0 by entries", tables[0][i], i == 7 ? 255 : i == 57 ? 2 : 1);
        }
    }

    private static void wrongScales() {
        BlockPicture x = new BlockPicture();
        int[][] wrong = {{-1, 5, 5}, {2, 5, 5}, {0, 1001, 5}, {0, -1001, 5}, {0, 5, 1001}, {0, 5, -1001},
            {Integer.MIN_VALUE, 5, 5}, {0, Integer.MAX_VALUE, 5}, {0, 5, Integer.MIN_VALUE}};
        for (int[] w : wrong) {
            CHECKS.fails("scale(" + w[0] + ", " + w[1] + ", " + w[2] + ")", ARGUMENT, () -> x.scale(w[0], w[1], w[2]));
        }
        CHECKS.same("wrong scales change nothing", tables(x)[0][63], 1);
    }

    private static void wrongEntries() {
        BlockPicture x = new BlockPicture();
        int[][] noPlace = {{0, -1, 0, 5}, {0, 8, 0, 5}, {0, 0, -1, 5}, {0, 0, 8, 5}, {2, 8, 0, 5}, {0, 0, 8, 0},
            {-1, -1, -1, 256}, {0, Integer.MAX_VALUE, 0, 5}, {0, 0, Integer.MIN_VALUE, 5}};
        for (int[] w : noPlace) {
            CHECKS.fails("entry without a place", INDEX, () -> x.entry(w[0], w[1], w[2], w[3]));
        }
        int[][] wrong = {{-1, 0, 0, 5}, {2, 0, 0, 5}, {0, 7, 7, 0}, {0, 0, 0, 256}, {1, 0, 0, -1},
            {Integer.MAX_VALUE, 0, 0, 5}, {0, 0, 0, Integer.MIN_VALUE}};
        for (int[] w : wrong) {
            CHECKS.fails("a wrong entry", ARGUMENT, () -> x.entry(w[0], w[1], w[2], w[3]));
        }
        int[][] tables = tables(x);
        for (int i = 0; i < 64; i++) {
            CHECKS.same("wrong entries change nothing", tables[0][i] + tables[1][i], 2);
        }
    }
}
