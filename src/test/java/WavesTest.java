import java.util.ArrayList;
import java.util.Arrays;
import java.util.List;

/** WAVES and COLOURS (promises 8, 18, 19): FLOOR and "cut off" of numbers below 0, and the least and greatest samples. */
public final class WavesTest {
    private static final Checks CHECKS = new Checks("WavesTest");

    public static void main(String[] args) {
        singleSamples();
        solidCanvases();
        floorsOfWeights();
        roundedByEachEntry();
        halves();
        theRow();
        firstLevelsToSamples();
        weightsOfOneRow();
        floorsOfSamples();
        kindsByHand();
        floorsOfKinds();
        coloursAtTheirBounds();
        floorsOfColours();
        CHECKS.finish();
    }

    private static int[] levels(BlockPicture x, int which, int layer, int block) {
        int[] levels = new int[64];
        for (int k = 0; k < 64; k++) {
            levels[k] = x.level(which, layer, block, k);
        }
        return levels;
    }

    private static int[] byRow(int[][] weights) {
        int[] row = new int[64];
        for (int k = 0; k < 64; k++) {
            int[] place = Plain.slants().get(k);
            row[k] = weights[place[0]][place[1]];
        }
        return row;
    }

    /** Each W(x, u) and each sum by itself: one sample is 255, or 128 among samples 127. */
    private static void singleSamples() {
        for (int i = 0; i < 64; i++) {
            int[][] black = new int[8][8];
            int[][] grey = new int[8][8];
            for (int[] row : grey) {
                Arrays.fill(row, 127);
            }
            black[i / 8][i % 8] = 255;
            grey[i / 8][i % 8] = 128;
            BlockPicture x = new BlockPicture();
            x.fill(i % 8, i / 8, 1, 1, 255);
            x.pack(1, 1, 0);
            CHECKS.sameRow("weights of one sample 255", levels(x, 0, 0, 0), byRow(Plain.weights(black)));
            x.fill(0, 0, 8, 8, 127);
            x.fill(i % 8, i / 8, 1, 1, 128);
            x.pack(1, 1, 0);
            CHECKS.sameRow("weights of one sample 128", levels(x, 0, 0, 0), byRow(Plain.weights(grey)));
        }
    }

    /** The first weight of samples that are all the same is eight times as much; 0 and 255 by hand. */
    private static void solidCanvases() {
        for (int c = 0; c < 256; c++) {
            BlockPicture x = new BlockPicture();
            x.fill(0, 0, 8, 8, c);
            x.pack(1, 1, 0);
            CHECKS.same("the first weight of " + c, x.level(0, 0, 0, 0), 8 * (c - 128));
            for (int k = 1; k < 64; k++) {
                CHECKS.same("weight " + k + " of " + c, x.level(0, 0, 0, k), 0);
            }
        }
    }

    /** Blocks of a few numbers, some sum of which is just at, or just below, what FLOOR takes for the next weight. */
    private static void floorsOfWeights() {
        int below = 0;
        int at = 0;
        for (int seed = 0; seed < 60000 && (below < 3 || at < 3); seed++) {
            Scenes numbers = new Scenes(seed);
            int[][] s = new int[8][8];
            for (int i = 0; i < 6; i++) {
                s[numbers.next(8)][numbers.next(8)] = numbers.next(256);
            }
            int edge = weightEdge(s);
            below += edge == 131071 ? 1 : 0;
            at += edge == 0 ? 1 : 0;
            if (edge >= 0) {
                BlockPicture x = new BlockPicture();
                for (int i = 0; i < 64; i++) {
                    if (s[i / 8][i % 8] != 0) {
                        x.fill(i % 8, i / 8, 1, 1, s[i / 8][i % 8]);
                    }
                }
                x.pack(1, 1, 0);
                CHECKS.sameRow("weights at an edge", levels(x, 0, 0, 0), byRow(Plain.weights(s)));
            }
        }
        CHECKS.isTrue("edges of weights were found: " + below + ", " + at, below >= 3 && at >= 3);
    }

    private static int weightEdge(int[][] s) {
        int found = -1;
        for (int u = 1; u < 8; u++) {
            long[] h = new long[8];
            for (int y = 0; y < 8; y++) {
                long sum = 256;
                for (int x = 0; x < 8; x++) {
                    sum += Plain.w(x, u) * (s[y][x] - 128L);
                }
                h[y] = Math.floorDiv(sum, 512L);
            }
            for (int v = 1; v < 8; v++) {
                long sum = 65536;
                for (int y = 0; y < 8; y++) {
                    sum += Plain.w(y, v) * h[y];
                }
                long rest = Math.floorMod(sum, 131072L);
                found = rest == 131071 || rest == 0 ? (int) rest : found;
            }
        }
        return found;
    }

    /** "ROUNDED by an entry e a weight f is the LEVEL (|f| + e / 2) / e (cut off), with f's sign": each e. */
    private static void roundedByEachEntry() {
        int[][] s = new int[8][8];
        Scenes numbers = new Scenes(3);
        for (int i = 0; i < 64; i++) {
            s[i / 8][i % 8] = numbers.next(256);
        }
        int[] weights = byRow(Plain.weights(s));
        for (int e = 1; e <= 255; e++) {
            BlockPicture x = new BlockPicture();
            for (int i = 0; i < 64; i++) {
                x.fill(i % 8, i / 8, 1, 1, s[i / 8][i % 8]);
            }
            x.scale(0, e, 0);
            x.pack(1, 1, 0);
            for (int k = 0; k < 64; k++) {
                int level = (Math.abs(weights[k]) + e / 2) / e;
                CHECKS.same("weight " + weights[k] + " by " + e, x.level(0, 0, 0, k), weights[k] < 0 ? -level : level);
            }
        }
    }

    /** Weights at both sides of a half, by hand: samples c have the first weight 8 (c - 128). */
    private static void halves() {
        int[][] due = {{129, 15, 1}, {129, 16, 1}, {129, 17, 0}, {127, 15, -1}, {127, 16, -1}, {127, 17, 0}, {128, 255, 0},
            {130, 11, 1}, {130, 10, 2}, {126, 10, -2}, {126, 11, -1}, {0, 255, -4}, {255, 255, 4}, {0, 1, -1024}, {255, 1, 1016},
            {143, 239, 1}, {143, 240, 1}, {143, 241, 0}, {113, 239, -1}, {113, 240, -1}, {113, 241, 0}, {132, 32, 1}, {133, 27, 1}, {134, 32, 2}};
        for (int[] d : due) {
            BlockPicture x = new BlockPicture();
            x.fill(0, 0, 8, 8, d[0]);
            x.entry(0, 0, 0, d[1]);
            x.pack(1, 1, 0);
            CHECKS.same("samples " + d[0] + " by " + d[1], x.level(0, 0, 0, 0), d[2]);
        }
    }

    /** THE ROW by hand: odd slants from the least row on, even ones from the greatest. */
    private static void theRow() {
        int[][] places = {{0, 0, 0}, {1, 0, 1}, {2, 1, 0}, {3, 2, 0}, {4, 1, 1}, {5, 0, 2}, {6, 0, 3}, {9, 3, 0}, {10, 4, 0}, {14, 0, 4},
            {15, 0, 5}, {20, 5, 0}, {21, 6, 0}, {27, 0, 6}, {28, 0, 7}, {35, 7, 0}, {36, 7, 1}, {42, 1, 7}, {43, 2, 7}, {48, 7, 2},
            {49, 7, 3}, {53, 3, 7}, {54, 4, 7}, {57, 7, 4}, {58, 7, 5}, {60, 5, 7}, {61, 6, 7}, {62, 7, 6}, {63, 7, 7}};
        for (int[] p : places) {
            BlockPicture x = new BlockPicture();
            x.canvas(8, 8, 3);
            x.entry(0, p[1], p[2], 200);
            x.entry(1, p[1], p[2], 201);
            x.pack(1, 1, 0);
            for (int k = 0; k < 64; k++) {
                CHECKS.same("entry " + k + " of table 0", x.out(7 + k), k == p[0] ? 200 : 1);
                CHECKS.same("entry " + k + " of table 1", x.out(72 + k), k == p[0] ? 201 : 1);
            }
        }
    }

    /** A picture of one layer, 64 by 64, whose blocks have these first levels alone. */
    private static BlockPicture firstLevels(int from, int entry) {
        Rows row = new Rows().mark(216).table(0, entry).starts(0).rests(0).frame(64, 64, 1, 17, 0).interval(1).scan(1, 0);
        for (int i = 0; i < 64; i++) {
            if (i > 0) {
                row.fillByte('1').mark(208 + (i - 1) % 8);
            }
            row.start(Math.min(2047, from + i)).restSymbol(0);
        }
        BlockPicture x = new BlockPicture();
        row.fillByte('1').mark(217).type(x);
        CHECKS.same("unpack() of first levels from " + from, x.unpack(), 0);
        return x;
    }

    /** "128 + FLOOR(..), but 0 if that is less, 255 if it is more": every first level there is. */
    private static void firstLevelsToSamples() {
        boolean[] seen = new boolean[4];
        for (int from = -2047; from <= 2047; from += 64) {
            for (int entry : new int[] {1, 255}) {
                BlockPicture x = firstLevels(from, entry);
                for (int i = 0; i < 64 && from + i <= 2047; i++) {
                    long g = Math.floorDiv(2896L * (from + i) * entry + 256, 512L);
                    long s = 128 + Math.floorDiv(2896 * g + 65536, 131072L);
                    seen[0] |= s == -1;
                    seen[1] |= s == 0;
                    seen[2] |= s == 255;
                    seen[3] |= s == 256;
                    int due = s < 0 ? 0 : s > 255 ? 255 : (int) s;
                    CHECKS.same("the samples of level " + (from + i), x.sample(i % 8 * 8, i / 8 * 8, 0), due);
                    CHECKS.same("the samples of level " + (from + i), x.sample(i % 8 * 8 + 7, i / 8 * 8 + 7, 0), due);
                }
            }
        }
        CHECKS.isTrue("-1, 0, 255 and 256 were seen", seen[0] && seen[1] && seen[2] && seen[3]);
    }

    /** Weights that are all alike in one row or one column, and 0 elsewhere. */
    private static void weightsOfOneRow() {
        int[] ones = new int[64];
        Arrays.fill(ones, 1);
        for (int i = 0; i < 16; i++) {
            for (int weight : new int[] {1, -1, 2, -2, 40, -40}) {
                int[] levels = new int[64];
                for (int k = 0; k < 64; k++) {
                    levels[k] = Plain.slants().get(k)[i / 8] == i % 8 ? weight : 0;
                }
                BlockPicture x = new BlockPicture();
                new Rows().mark(216).table(0, 1).starts(0).rests(0).frame(8, 8, 1, 17, 0).scan(1, 0).block(0, levels).fillByte('1')
                        .mark(217).type(x);
                CHECKS.same("unpack()", x.unpack(), 0);
                Plain due = new Plain(8, 8, new int[][] {{1, 1}});
                due.levels[0][0] = levels;
                int[][][] samples = due.show(new int[][] {ones});
                for (int j = 0; j < 64; j++) {
                    CHECKS.same("a sample of weights " + weight, x.sample(j % 8, j / 8, 0), samples[0][j / 8][j % 8]);
                }
            }
        }
    }

    /** Levels some sum of which is just at, or just below, what FLOOR takes for the next sample. */
    private static void floorsOfSamples() {
        int below = 0;
        int at = 0;
        for (int seed = 0; seed < 60000 && (below < 3 || at < 3); seed++) {
            Scenes numbers = new Scenes(seed);
            int[] levels = new int[64];
            for (int i = 0; i < 5; i++) {
                levels[numbers.next(64)] = numbers.next(161) - 80;
            }
            int edge = sampleEdge(levels);
            below += edge == 131071 ? 1 : 0;
            at += edge == 0 ? 1 : 0;
            if (edge >= 0) {
                Plain due = new Plain(8, 8, new int[][] {{1, 1}});
                due.levels[0][0] = levels;
                BlockPicture x = new BlockPicture();
                new Rows().mark(216).table(0, 1).starts(0).rests(0).frame(8, 8, 1, 17, 0).scan(1, 0).block(0, levels).fillByte('1')
                        .mark(217).type(x);
                CHECKS.same("unpack()", x.unpack(), 0);
                int[] ones = new int[64];
                Arrays.fill(ones, 1);
                int[][][] samples = due.show(new int[][] {ones});
                for (int i = 0; i < 64; i++) {
                    CHECKS.same("a sample at an edge", x.sample(i % 8, i / 8, 0), samples[0][i / 8][i % 8]);
                }
            }
        }
        CHECKS.isTrue("edges of samples were found: " + below + ", " + at, below >= 3 && at >= 3);
    }

    private static int sampleEdge(int[] levels) {
        int[][] f = new int[8][8];
        for (int k = 0; k < 64; k++) {
            f[Plain.slants().get(k)[0]][Plain.slants().get(k)[1]] = levels[k];
        }
        int found = -1;
        for (int x = 0; x < 8; x++) {
            long[] g = new long[8];
            for (int v = 0; v < 8; v++) {
                long sum = 256;
                for (int u = 0; u < 8; u++) {
                    sum += (long) Plain.w(x, u) * f[v][u];
                }
                g[v] = Math.floorDiv(sum, 512L);
            }
            for (int y = 0; y < 8; y++) {
                long sum = 65536;
                for (int v = 0; v < 8; v++) {
                    sum += Plain.w(y, v) * g[v];
                }
                long rest = Math.floorMod(sum, 131072L);
                boolean seen = sum > -120 * 131072 && sum < 120 * 131072;
                found = seen && (rest == 131071 || rest == 0) ? (int) rest : found;
            }
        }
        return found;
    }

    /** The three samples of a colour, seen as first levels by entries 8: each is so much more than 128. */
    private static int[] kinds(int c) {
        BlockPicture x = new BlockPicture();
        x.canvas(1, 1, 3);
        x.fill(0, 0, 1, 1, c);
        x.entry(0, 0, 0, 8);
        x.entry(1, 0, 0, 8);
        x.pack(1, 1, 0);
        return new int[] {128 + x.level(0, 0, 0, 0), 128 + x.level(0, 1, 0, 0), 128 + x.level(0, 2, 0, 0)};
    }

    /** Written down by hand: FLOOR of numbers below 0 (not cut off), and 256, which is 255. */
    private static void kindsByHand() {
        int[][] due = {{0x000000, 0, 128, 128}, {0xFFFFFF, 255, 128, 128}, {0xFF0000, 76, 85, 255}, {0x00FF00, 150, 44, 21},
            {0x0000FF, 29, 255, 107}, {0xFFFF00, 226, 1, 149}, {0x00FFFF, 179, 171, 1}, {0xFF00FF, 105, 212, 235},
            {0x010000, 0, 128, 129}, {0x000100, 1, 128, 128}, {0x000001, 0, 129, 128}, {0x020000, 1, 128, 129}, {0x000200, 1, 127, 127},
            {0x000005, 1, 131, 128}, {0x0000FE, 29, 255, 107}, {0x0000FD, 29, 255, 107}};
        for (int[] d : due) {
            CHECKS.sameRow("the samples of colour " + Integer.toHexString(d[0]), kinds(d[0]), Arrays.copyOfRange(d, 1, 4));
        }
    }

    /** Colours for which one of the sums is just at, or just below, what FLOOR takes for the next number. */
    private static void floorsOfKinds() {
        int[][] found = new int[3][2];
        for (int c = 0; c < 1 << 24; c++) {
            int r = c >> 16;
            int g = c >> 8 & 255;
            int b = c & 255;
            int[] sums = {19595 * r + 38470 * g + 7471 * b, -11059 * r - 21709 * g + 32768 * b, 32768 * r - 27439 * g - 5329 * b};
            for (int kind = 0; kind < 3; kind++) {
                int rest = sums[kind] + 32768 & 65535;
                if (rest == 0 || rest == 65535) {
                    int side = rest == 0 ? 0 : 1;
                    found[kind][side]++;
                    if (found[kind][side] % 8 == 1 && found[kind][side] < 160) {
                        CHECKS.sameRow("the samples of colour " + Integer.toHexString(c), kinds(c), Plain.kinds(r, g, b));
                    }
                }
            }
        }
        CHECKS.isTrue("edges of the first kind were found", found[0][0] > 8 && found[0][1] > 8);
        CHECKS.isTrue("edges of the others were found", found[1][0] > 8 && found[2][0] > 8);
    }

    /** All of 0, 1, 2, 126 .. 129, 254, 255 as samples of three layers: colours below 0 and above 255 come among them. */
    private static void coloursAtTheirBounds() {
        int[] values = {0, 1, 2, 75, 126, 127, 128, 129, 180, 254, 255};
        List<int[]> all = new ArrayList<>();
        for (int y : values) {
            for (int p : values) {
                for (int q : values) {
                    all.add(new int[] {y, p, q});
                }
            }
        }
        boolean[] seen = compareColours(all);
        for (boolean bound : seen) {
            CHECKS.isTrue("each plane had 0 and 255", bound);
        }
    }

    /** Each second and each third sample by itself; and of both those whose sum is nearest to what FLOOR takes for the next number. */
    private static void floorsOfColours() {
        List<int[]> all = new ArrayList<>();
        for (int i = 0; i < 256; i++) {
            for (int y : new int[] {60, 128, 190}) {
                all.add(new int[] {y, i, 128});
                all.add(new int[] {y, 128, i});
            }
        }
        int edges = 0;
        for (int i = 0; i < 65536; i++) {
            int p = i % 256;
            int q = i / 256;
            int rest = 22554 * (p - 128) + 46802 * (q - 128) + 32768 & 65535;
            if (rest < 16 || rest >= 65520) {
                edges++;
                all.add(new int[] {128, p, q});
            }
        }
        CHECKS.isTrue("edges of the second colour were found: " + edges, edges > 4);
        compareColours(all);
    }

    /** Pictures of 64 blocks, each of one colour: whether 0 and 255 came, by planes. */
    private static boolean[] compareColours(List<int[]> all) {
        boolean[] seen = new boolean[6];
        for (int from = 0; from < all.size(); from += 64) {
            List<int[]> samples = all.subList(from, Math.min(all.size(), from + 64));
            BlockPicture x = colours(samples);
            for (int i = 0; i < samples.size(); i++) {
                int[] due = Plain.colours(samples.get(i)[0], samples.get(i)[1], samples.get(i)[2]);
                for (int plane = 0; plane < 3; plane++) {
                    CHECKS.same("colour of " + Arrays.toString(samples.get(i)), x.sample(i % 8 * 8, i / 8 * 8, plane), due[plane]);
                    seen[2 * plane] |= due[plane] == 0;
                    seen[2 * plane + 1] |= due[plane] == 255;
                }
            }
        }
        return seen;
    }

    /** By entries 8 a first level l makes samples 128 + l. */
    private static BlockPicture colours(List<int[]> samples) {
        Rows row = new Rows().mark(216).table(0, 8).starts(0).rests(0).frame(64, 64, 1, 17, 0, 2, 17, 0, 3, 17, 0).interval(1);
        row.scan(1, 0, 2, 0, 3, 0);
        for (int i = 0; i < 64; i++) {
            if (i > 0) {
                row.fillByte('0').mark(208 + (i - 1) % 8);
            }
            for (int layer = 0; layer < 3; layer++) {
                row.start(i < samples.size() ? samples.get(i)[layer] - 128 : 0).restSymbol(0);
            }
        }
        BlockPicture x = new BlockPicture();
        row.fillByte('1').mark(217).type(x);
        CHECKS.same("unpack() of colours", x.unpack(), 0);
        return x;
    }
}
