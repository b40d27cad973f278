import java.util.Arrays;

/** LAYERS (promises 8, 15, 18, 19): factors, what is beyond edges, GRIDS and blocks that no scan told. */
public final class LayersTest {
    private static final Class<?> INDEX = IndexOutOfBoundsException.class;
    private static final Checks CHECKS = new Checks("LayersTest");

    public static void main(String[] args) {
        packedGrids();
        unitsAndGrids();
        unitsOfOneLayer();
        meansByHand();
        meansAtTheLastRow();
        blocksBeyondTheEdge();
        samplesOfCoarseLayers();
        samplesOfCoarseFirstLayer();
        blocksThatNoScanTold();
        levelsOfThePictureBefore();
        CHECKS.finish();
    }

    /** "a times as many blocks across as there are stretches of 8 A samples in the width (upward)": each width and height. */
    private static void packedGrids() {
        for (int side = 1; side <= 64; side++) {
            for (int form = 0; form < 8; form++) {
                int across = 1 + form % 2;
                int down = 1 + form / 2 % 2;
                int planes = form < 4 ? 1 : 3;
                grids(side, 9, planes, across, down);
                grids(9, side, planes, across, down);
            }
        }
    }

    private static void grids(int width, int height, int planes, int across, int down) {
        BlockPicture x = new BlockPicture();
        x.canvas(width, height, planes);
        x.fill(0, 0, width, height, 0xC0C0C0);
        x.entry(0, 0, 0, 8);
        x.pack(across, down, 0);
        x.turn();
        String what = width + " by " + height + " by " + planes + ", " + across + " " + down;
        CHECKS.same("unpack() of " + what, x.unpack(), 0);
        int wide = (width + 8 * across - 1) / (8 * across);
        int high = (height + 8 * down - 1) / (8 * down);
        for (int layer = 0; layer < planes; layer++) {
            int one = layer;
            int blocks = layer == 0 ? across * wide * down * high : wide * high;
            // Several layers are told with their blocks beyond the edges, one layer without them.
            boolean told = planes == 3 || width > 8 * (across * wide - 1) && height > 8 * (down * high - 1);
            for (int which = 0; which < 2; which++) {
                int side = which;
                CHECKS.same("the last block of " + what, x.level(which, layer, blocks - 1, 0), layer == 0 && told ? 64 : 0);
                CHECKS.same("the first block of " + what, x.level(which, layer, 0, 0), layer == 0 ? 64 : 0);
                CHECKS.fails("a block too many of " + what, INDEX, () -> x.level(side, one, blocks, 0));
            }
        }
    }

    /** Codes of one bit for symbols 0: a block is two bits 0. */
    private static Rows told(int width, int height, int... factors) {
        Rows row = new Rows().mark(216).table(0, 8).mark(196).two(38).add(0, 1).many(15, 0).add(0).add(16, 1).many(15, 0).add(0);
        int[] threes = new int[3 * factors.length];
        for (int i = 0; i < factors.length; i++) {
            threes[3 * i] = i + 1;
            threes[3 * i + 1] = factors[i];
        }
        return row.frame(width, height, threes);
    }

    /** With an INTERVAL 1 each unit ends with a MARK, so that their number must be the one that is due. */
    private static Rows units(Rows row, int count, int perUnit) {
        for (int i = 0; i < count; i++) {
            if (i > 0) {
                row.mark(208 + (i - 1) % 8);
            }
            row.bits("00".repeat(perUnit)).fillByte('1');
        }
        return row;
    }

    private static void unitsAndGrids() {
        int[] all = {0x11, 0x12, 0x21, 0x22};
        int[][] sizes = {{1, 1}, {8, 8}, {9, 8}, {8, 9}, {16, 16}, {17, 16}, {16, 17}, {24, 25}, {33, 31}, {64, 64}, {64, 1}, {1, 64}, {63, 49}};
        for (int[] size : sizes) {
            for (int i = 0; i < 64; i++) {
                int[] factors = {all[i % 4], all[i / 4 % 4], all[i / 16]};
                int most = (factors[0] | factors[1] | factors[2]) & 0x22;
                int wide = (size[0] + 7) / 8;
                int high = (size[1] + 7) / 8;
                wide = (most & 0x20) == 0 ? wide : (wide + 1) / 2;
                high = (most & 0x02) == 0 ? high : (high + 1) / 2;
                int[] blocks = new int[3];
                for (int layer = 0; layer < 3; layer++) {
                    blocks[layer] = (factors[layer] >> 4) * (factors[layer] & 15);
                }
                if (blocks[0] + blocks[1] + blocks[2] > 10) {
                    continue;
                }
                BlockPicture x = new BlockPicture();
                Rows row = told(size[0], size[1], factors).interval(1).scan(1, 0, 2, 0, 3, 0);
                units(row, wide * high, blocks[0] + blocks[1] + blocks[2]).mark(217).type(x);
                String what = Arrays.toString(size) + Arrays.toString(factors);
                CHECKS.same("unpack() of " + what, x.unpack(), 0);
                for (int layer = 0; layer < 3; layer++) {
                    CHECKS.same("how many blocks of " + what, countOf(x, layer), wide * high * blocks[layer]);
                }
            }
        }
    }

    private static int countOf(BlockPicture x, int layer) {
        int count = 0;
        try {
            for (; count < 100; count++) {
                x.level(1, layer, count, 0);
            }
        } catch (IndexOutOfBoundsException e) {
            return count;
        }
        return count;
    }

    /** "of a scan with one layer its blocks that have a sample of it": none of those beyond the edges. */
    private static void unitsOfOneLayer() {
        for (int side = 1; side <= 64; side++) {
            for (int[] size : new int[][] {{side, 9}, {9, side}}) {
                BlockPicture x = new BlockPicture();
                Rows row = told(size[0], size[1], 0x22, 0x11, 0x21).interval(1);
                int wide = (size[0] + 1) / 2;
                int high = (size[1] + 1) / 2;
                units(row.scan(2, 0), (wide + 7) / 8 * ((high + 7) / 8), 1);
                units(row.scan(1, 0), (size[0] + 7) / 8 * ((size[1] + 7) / 8), 1);
                units(row.scan(3, 0), (size[0] + 7) / 8 * ((high + 7) / 8), 1);
                row.mark(217).type(x);
                CHECKS.same("unpack() of scans of one layer, " + size[0] + " by " + size[1] + " at " + x.place(), x.unpack(), 0);
                units(told(size[0], size[1], 0x22).interval(1).scan(1, 0), (size[0] + 7) / 8 * ((size[1] + 7) / 8), 1).mark(217).type(x);
                CHECKS.same("unpack() of one layer, " + size[0] + " by " + size[1], x.unpack(), 0);
            }
        }
    }

    /** What a layer of 8 by 8 samples with these rows gives; rows and columns that are missing are like the last ones. */
    private static void sameBlock(String what, BlockPicture x, int layer, int block, int[]... rows) {
        int[][] s = new int[8][8];
        for (int i = 0; i < 64; i++) {
            int[] row = rows[Math.min(rows.length - 1, i / 8)];
            s[i / 8][i % 8] = row[Math.min(row.length - 1, i % 8)];
        }
        int[][] f = Plain.weights(s);
        for (int k = 0; k < 64; k++) {
            int[] place = Plain.slants().get(k);
            CHECKS.same(what + ", level " + k, x.level(0, layer, block, k), f[place[0]][place[1]]);
        }
    }

    /** Black has the second sample 128, blue 255 and red 85: means of two and of four, beyond edges too. */
    private static void meansByHand() {
        BlockPicture x = new BlockPicture();
        x.canvas(3, 1, 3);
        x.fill(1, 0, 2, 1, 0x0000FF);
        x.pack(2, 1, 0);
        sameBlock("two across", x, 1, 0, new int[] {192, 255});
        sameBlock("the first layer", x, 0, 0, new int[] {0, 29, 29});
        x.pack(2, 2, 0);
        sameBlock("two across and two down, of which one is beyond", x, 1, 0, new int[] {192, 255});
        x.pack(1, 2, 0);
        sameBlock("two down, of which one is beyond", x, 1, 0, new int[] {128, 255, 255});
        x.fill(0, 0, 1, 1, 0xFF0000);
        x.pack(2, 1, 0);
        sameBlock("(85 + 255 + 1) / 2", x, 1, 0, new int[] {170, 255});
        x.canvas(2, 2, 3);
        x.fill(0, 0, 1, 1, 0x0000FF);
        x.pack(2, 2, 0);
        sameBlock("(255 + 3 * 128 + 2) / 4", x, 1, 0, new int[] {160});
        x.fill(1, 1, 1, 1, 0xFF0000);
        x.pack(2, 2, 0);
        sameBlock("(255 + 2 * 128 + 85 + 2) / 4", x, 1, 0, new int[] {149});
        x.pack(1, 1, 0);
        sameBlock("without a mean", x, 1, 0, new int[] {255, 128}, new int[] {128, 85});
    }

    private static void meansAtTheLastRow() {
        BlockPicture x = new BlockPicture();
        x.canvas(3, 3, 3);
        x.fill(2, 2, 1, 1, 0x0000FF);
        x.pack(2, 2, 0);
        sameBlock("a corner whose other samples are beyond", x, 1, 0, new int[] {128, 128}, new int[] {128, 255});
        x.fill(2, 1, 1, 1, 0x0000FF);
        x.pack(2, 2, 0);
        sameBlock("a column beside it", x, 1, 0, new int[] {128, 192}, new int[] {128, 255});
        x.fill(0, 2, 3, 1, 0xFF0000);
        x.pack(1, 2, 0);
        sameBlock("the last row twice", x, 1, 0, new int[] {128, 128, 192}, new int[] {85});
    }

    /** "Beyond the edges of a layer its samples are like the last ones before": also whole blocks of a unit. */
    private static void blocksBeyondTheEdge() {
        BlockPicture x = new BlockPicture();
        x.canvas(9, 10, 3);
        x.slope(0, 0, 9, 10, 0, 0xFFFFFF);
        x.fill(0, 9, 9, 1, 0xFFFFFF);
        x.pack(2, 2, 0);
        int[] row = {0, 28, 56, 85, 113, 141, 170, 198, 226};
        int[] white = {255};
        sameBlock("the block within", x, 0, 0, row);
        sameBlock("the block with the last column", x, 0, 1, new int[] {226});
        sameBlock("the block with the last row", x, 0, 2, row, white);
        sameBlock("the corner", x, 0, 3, new int[] {226}, white);
        x.canvas(7, 5, 3);
        x.slope(0, 0, 7, 5, 0, 0xFFFFFF);
        x.fill(0, 4, 7, 1, 0x808080);
        x.pack(2, 2, 0);
        sameBlock("a block all beyond the right edge", x, 0, 1, new int[] {218}, new int[] {218}, new int[] {218}, new int[] {218}, new int[] {128});
        sameBlock("a block all beyond the lower edge", x, 0, 2, new int[] {128});
        sameBlock("a block beyond both", x, 0, 3, new int[] {128});
    }

    /** Levels of a block whose columns and rows are all different. */
    private static int[] ramp(int across, int down) {
        int[] levels = new int[64];
        levels[1] = across;
        levels[2] = down;
        return levels;
    }

    /** "takes of each layer the one at x * a / A, y * d / D (cut off)". */
    private static void samplesOfCoarseLayers() {
        BlockPicture x = new BlockPicture();
        new Rows().mark(216).table(0, 8).starts(0).rests(0).frame(7, 5, 1, 0x22, 0, 2, 0x12, 0, 3, 0x21, 0)
                .scan(1, 0).start(3).restSymbol(0).fillByte('1').scan(2, 0).block(0, ramp(-20, 30)).fillByte('1')
                .scan(3, 0).block(0, ramp(25, -15)).fillByte('1').mark(217).type(x);
        CHECKS.same("unpack()", x.unpack(), 0);
        int[][] second = shown(ramp(-20, 30));
        int[][] third = shown(ramp(25, -15));
        for (int py = 0; py < 5; py++) {
            for (int px = 0; px < 7; px++) {
                int[] colours = Plain.colours(131, second[py][px / 2], third[py / 2][px]);
                for (int plane = 0; plane < 3; plane++) {
                    CHECKS.same("sample " + px + ", " + py, x.sample(px, py, plane), colours[plane]);
                }
            }
        }
    }

    private static int[][] shown(int[] levels) {
        int[][] f = new int[8][8];
        for (int k = 0; k < 64; k++) {
            f[Plain.slants().get(k)[0]][Plain.slants().get(k)[1]] = 8 * levels[k];
        }
        return Plain.samples(f);
    }

    /** A first layer that is coarser than the others; of one layer alone, a = A whatever it is. */
    private static void samplesOfCoarseFirstLayer() {
        BlockPicture x = new BlockPicture();
        int[] levels = ramp(40, -35);
        new Rows().mark(216).table(0, 8).starts(0).rests(0).frame(15, 13, 1, 0x11, 0, 2, 0x21, 0, 3, 0x12, 0)
                .scan(1, 0).block(0, levels).fillByte('1')
                .scan(2, 0).bits("0".repeat(24)).scan(3, 0).bits("0".repeat(24)).mark(217).type(x);
        CHECKS.same("unpack()", x.unpack(), 0);
        for (int i = 0; i < 15 * 13; i++) {
            CHECKS.same("a grey sample", x.sample(i % 15, i / 15, i % 3), shown(levels)[i / 15 / 2][i % 15 / 2]);
        }
        for (int factors : new int[] {0x11, 0x12, 0x21, 0x22}) {
            BlockPicture y = new BlockPicture();
            new Rows().mark(216).table(0, 8).starts(0).rests(0).frame(8, 8, 1, factors, 0).scan(1, 0).block(0, levels).fillByte('1')
                    .mark(217).type(y);
            CHECKS.same("unpack()", y.unpack(), 0);
            for (int i = 0; i < 64; i++) {
                CHECKS.same("a sample by factors " + factors, y.sample(i % 8, i / 8, 0), shown(levels)[i / 8][i % 8]);
            }
        }
    }

    /** "Blocks that no scan told have levels 0": those without a sample of a layer that was in a scan alone. */
    private static void blocksThatNoScanTold() {
        BlockPicture x = new BlockPicture();
        int[] levels = ramp(3, 4);
        levels[0] = 9;
        Rows row = new Rows().mark(216).table(0, 8).starts(0).rests(0).frame(17, 9, 1, 0x22, 0, 2, 0x11, 0, 3, 0x11, 0);
        row.scan(1, 0);
        for (int i = 0; i < 6; i++) {
            row.block(i == 0 ? 0 : 9, levels);
        }
        row.fillByte('1').scan(2, 0).block(0, levels).block(9, levels).fillByte('1').scan(3, 0).bits("0".repeat(24)).mark(217).type(x);
        CHECKS.same("unpack()", x.unpack(), 0);
        for (int block = 0; block < 8; block++) {
            boolean told = block % 4 < 3;
            CHECKS.same("level 0 of block " + block, x.level(1, 0, block, 0), told ? 9 : 0);
            CHECKS.same("level 2 of block " + block, x.level(1, 0, block, 2), told ? 4 : 0);
        }
        CHECKS.fails("block 8", INDEX, () -> x.level(1, 0, 8, 0));
        CHECKS.same("the last block of the second layer", x.level(1, 1, 1, 1), 3);
        CHECKS.fails("block 2 of the second layer", INDEX, () -> x.level(1, 1, 2, 0));
    }

    /** Blocks that the picture before, or what was packed before, had told are 0 again when no scan tells them. */
    private static void levelsOfThePictureBefore() {
        BlockPicture x = new BlockPicture();
        for (int i = 0; i < 3; i++) {
            x.canvas(16, 16, 1);
            x.fill(0, 0, 16, 16, 200);
            x.pack(1, 1, 0);
            x.turn();
            CHECKS.same("unpack()", x.unpack(), 0);
            CHECKS.same("the last block", x.level(1, 0, 3, 0), 576);
            CHECKS.same("the last block of what was packed", x.level(0, 0, 3, 0), 576);
            x.canvas(8, 8, 1);
            x.fill(0, 0, 8, 8, 200);
            x.pack(2, 2, 0);
            x.turn();
            CHECKS.same("unpack()", x.unpack(), 0);
            for (int block = 0; block < 4; block++) {
                CHECKS.same("block " + block, x.level(1, 0, block, 0), block == 0 ? 576 : 0);
                CHECKS.same("block " + block + " of what was packed", x.level(0, 0, block, 0), block == 0 ? 576 : 0);
            }
        }
    }
}
