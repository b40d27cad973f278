import java.util.Arrays;
import java.util.function.Consumer;

/** PACKING (promise 8): rows written down by hand, for each sentence that tells how they are made. */
public final class PackingTest {
    private static final Checks CHECKS = new Checks("PackingTest");

    public static void main(String[] args) {
        oneLayer();
        threeLayers();
        withFactors();
        intervalIfNotZero();
        marksBetweenUnits();
        bitsAtTheEndsOfBytes();
        lastBytes255();
        runsOfZeros();
        lastLevels();
        lengthsByHand();
        layersThatShareCodes();
        symbolsOfAllBits();
        outIsAnewEachTime();
        CHECKS.finish();
    }

    private static void sameOut(String what, Consumer<BlockPicture> packed, Rows due) {
        int[] row = due.row();
        BlockPicture x = Checks.with(packed);
        CHECKS.same("size() of " + what, x.size(), row.length);
        if (x.size() == row.length) {
            CHECKS.sameRow("out of " + what, Checks.readMany(packed, row.length, (y, i) -> y.out(i)), row);
        }
    }

    /** A code as a section tells it: how many of 1, 2, 3, 4 bits; symbols. */
    private static Rows code(Rows row, int number, int[] counts, int... symbols) {
        return row.add(number).add(counts).many(16 - counts.length, 0).add(symbols);
    }

    private static int[] counts(int... counts) {
        return counts;
    }

    private static Rows head(int entry) {
        return new Rows().mark(216).table(0, entry);
    }

    /** "MARK 216; one section of TABLES, 0 ..; the frame ..; one section of CODES: starts 0, rests 0; .. one scan; MARK 217". */
    private static void oneLayer() {
        Rows row = head(1).frame(5, 3, 1, 17, 0).mark(196).two(2 + 2 * 18);
        code(code(row, 0, counts(1), 0), 16, counts(1), 0).scan(1, 0).bits("00").fillByte('1').mark(217);
        sameOut("a grey canvas", x -> {
            x.canvas(5, 3, 1);
            x.fill(0, 0, 5, 3, 128);
            CHECKS.same("pack()", x.pack(1, 1, 0), row.size());
        }, row);
    }

    private static Rows threeTold(int width, int height, int factors) {
        Rows row = new Rows().mark(216).mark(219).two(2 + 2 * 65).add(0).many(64, 3).add(1).many(64, 5)
                .frame(width, height, 1, factors, 0, 2, 17, 1, 3, 17, 1).mark(196).two(2 + 4 * 18);
        code(row, 0, counts(1), 0);
        code(row, 16, counts(1), 0);
        code(row, 1, counts(1), 0);
        return code(row, 17, counts(1), 0);
    }

    private static Consumer<BlockPicture> grey(int width, int height, int across, int down, int interval) {
        return x -> {
            x.canvas(width, height, 3);
            x.fill(0, 0, width, height, 0x808080);
            x.scale(0, 3, 0);
            x.scale(1, 5, 0);
            x.pack(across, down, interval);
        };
    }

    /** "and with 3 layers 1"; "NAMES 1, 2, 3; table 0 for the first layer, 1 for others"; "codes 0 for the first one, 1 for others". */
    private static void threeLayers() {
        sameOut("a grey canvas of three planes", grey(1, 1, 1, 1, 0), threeTold(1, 1, 0x11).scan(1, 0, 2, 17, 3, 17).bits("00".repeat(3))
                .fillByte('1').mark(217));
    }

    private static void withFactors() {
        sameOut("factors 2 and 1", grey(1, 1, 2, 1, 0), threeTold(1, 1, 0x21).scan(1, 0, 2, 17, 3, 17).bits("00".repeat(4)).mark(217));
        sameOut("factors 1 and 2", grey(1, 1, 1, 2, 0), threeTold(1, 1, 0x12).scan(1, 0, 2, 17, 3, 17).bits("00".repeat(4)).mark(217));
        sameOut("factors 2 and 2", grey(1, 1, 2, 2, 0), threeTold(1, 1, 0x22).scan(1, 0, 2, 17, 3, 17).bits("00".repeat(6)).fillByte('1').mark(217));
        sameOut("factors 2 and 2, 17 by 16", grey(17, 16, 2, 2, 0), threeTold(17, 16, 0x22).scan(1, 0, 2, 17, 3, 17).bits("00".repeat(12)).mark(217));
        sameOut("factors 2 and 2, 16 by 17", grey(16, 17, 2, 2, 0), threeTold(16, 17, 0x22).scan(1, 0, 2, 17, 3, 17).bits("00".repeat(12)).mark(217));
        sameOut("factors 2 and 1, 16 by 17", grey(16, 17, 2, 1, 0), threeTold(16, 17, 0x21).scan(1, 0, 2, 17, 3, 17).bits("00".repeat(12)).mark(217));
        sameOut("factors 2 and 2, 16 by 16", grey(16, 16, 2, 2, 0), threeTold(16, 16, 0x22).scan(1, 0, 2, 17, 3, 17).bits("00".repeat(6)).fillByte('1').mark(217));
        // One layer is told without its blocks beyond the edges.
        Rows row = head(1).frame(17, 9, 1, 0x22, 0).mark(196).two(2 + 2 * 18);
        code(code(row, 0, counts(1), 0), 16, counts(1), 0).scan(1, 0).bits("00".repeat(6)).fillByte('1').mark(217);
        sameOut("one layer with factors", x -> {
            x.canvas(17, 9, 1);
            x.fill(0, 0, 17, 9, 128);
            x.pack(2, 2, 0);
        }, row);
    }

    /** "the INTERVAL, if it is not 0": also one that no MARK comes of. */
    private static void intervalIfNotZero() {
        for (int interval : new int[] {1, 2, 255, 256, 65535}) {
            sameOut("INTERVAL " + interval, grey(1, 1, 1, 1, interval), threeTold(1, 1, 0x11).interval(interval).scan(1, 0, 2, 17, 3, 17)
                    .bits("00".repeat(3)).fillByte('1').mark(217));
        }
    }

    /** MARKS stand behind each i units, if more come; starts are as at first then: units of three blocks, six bits. */
    private static void marksBetweenUnits() {
        for (int interval = 1; interval <= 21; interval++) {
            Rows row = threeTold(24, 56, 0x11).interval(interval).scan(1, 0, 2, 17, 3, 17);
            for (int unit = 0; unit < 21; unit++) {
                if (unit > 0 && unit % interval == 0) {
                    row.fillByte('1').mark(208 + (unit / interval - 1) % 8);
                }
                row.bits("000000");
            }
            sameOut("INTERVAL " + interval + " of 21 units", grey(24, 56, 1, 1, interval), row.fillByte('1').mark(217));
        }
        // Samples 136 have level 8, which each unit tells anew: symbol 4 twice, 0 once with INTERVAL 2.
        Rows row = head(8).frame(24, 8, 1, 17, 0).mark(196).two(2 + 19 + 18);
        code(code(row, 0, counts(1, 1), 4, 0), 16, counts(1), 0).interval(2).scan(1, 0)
                .bits("0" + "1000" + "0").bits("10" + "0").fillByte('1').mark(208).bits("0" + "1000" + "0").fillByte('1').mark(217);
        sameOut("starts behind a MARK", x -> {
            x.canvas(24, 8, 1);
            x.fill(0, 0, 24, 8, 136);
            x.scale(0, 8, 0);
            x.pack(1, 1, 2);
        }, row);
    }

    /** "Bits at the ends of bytes that count for nothing are 1"; none stand where a byte is full. */
    private static void bitsAtTheEndsOfBytes() {
        for (int blocks = 1; blocks <= 8; blocks++) {
            int width = 8 * blocks;
            Rows row = head(1).frame(width, 8, 1, 17, 0).mark(196).two(2 + 2 * 18);
            code(code(row, 0, counts(1), 0), 16, counts(1), 0).scan(1, 0).bits("00".repeat(blocks)).fillByte('1').mark(217);
            sameOut(blocks + " blocks", x -> {
                x.canvas(width, 8, 1);
                x.fill(0, 0, width, 8, 128);
                x.pack(1, 1, 0);
            }, row);
        }
    }

    private static Consumer<BlockPicture> noise(int seed, int interval) {
        return x -> {
            Scenes numbers = new Scenes(seed);
            x.canvas(16, 8, 1);
            for (int i = 0; i < 128; i++) {
                x.fill(i % 16, i / 16, 1, 1, numbers.next(256));
            }
            x.scale(0, 2, 0);
            x.pack(1, 1, interval);
        };
    }

    /** Where the bits at the end make a byte 255, it has a 0 behind it as any other: before MARK 217, and before 208. */
    private static void lastBytes255() {
        int last = 0;
        int between = 0;
        int[][] tables = new int[2][64];
        Arrays.fill(tables[0], 2);
        for (int seed = 0; seed < 4000 && (last < 2 || between < 2); seed++) {
            BlockPicture x = Checks.with(noise(seed, 1));
            int size = x.size();
            boolean ends = x.out(size - 4) == 255 && x.out(size - 3) == 0;
            boolean within = false;
            for (int i = size - 1; i > size - 200; i--) {
                within = within || x.out(i) == 208 && x.out(i - 1) == 255 && x.out(i - 2) == 0 && x.out(i - 3) == 255;
            }
            if (ends || within) {
                Plain due = Plain.pack(Scenes.read(noise(seed, 1), 16, 8, 1), tables, 1, 1, 1);
                sameOut("noise " + seed, noise(seed, 1), due.row);
                last += ends ? 1 : 0;
                between += within ? 1 : 0;
            }
        }
        CHECKS.isTrue("last bytes 255 were found: " + last + ", " + between, last >= 2 && between >= 2);
    }

    /** A canvas of one block with these levels by entries 16: they come back when it is packed. */
    private static Consumer<BlockPicture> taken(int... levels) {
        return x -> {
            new Rows().mark(216).table(0, 16).starts(0).rests(0).frame(8, 8, 1, 17, 0).scan(1, 0).block(0, levels).fillByte('1').mark(217).type(x);
            CHECKS.same("unpack() of levels", x.unpack(), 0);
            x.take();
            x.scale(0, 16, 0);
            x.pack(1, 1, 0);
            for (int k = 0; k < 64; k++) {
                CHECKS.same("level " + k, x.level(0, 0, 0, k), levels[k]);
            }
        };
    }

    private static Rows taken16(int codesLength) {
        return head(16).frame(8, 8, 1, 17, 0).mark(196).two(2 + codesLength);
    }

    /** "sixteen levels 0 before another one make 240": by how many levels 0 stand before a level 4. */
    private static void runsOfZeros() {
        for (int zeros = 0; zeros <= 62; zeros++) {
            int[] levels = new int[64];
            levels[zeros + 1] = 4;
            int symbol = zeros % 16 * 16 + 3;
            String number = "100";
            Rows row;
            if (zeros == 62) {
                // Three times 240, the level at once, and no 0 behind it: 240 has one bit.
                row = code(code(taken16(18 + 19), 0, counts(1), 0), 16, counts(1, 1), 240, symbol).scan(1, 0).bits("0" + "000" + "10" + number);
            } else if (zeros < 16) {
                // The symbol and 0 once each: 0 goes with 256, and has two bits.
                row = code(code(taken16(18 + 19), 0, counts(1), 0), 16, counts(1, 1), symbol, 0).scan(1, 0).bits("0" + "0" + number + "10");
            } else if (zeros == 31) {
                // All three once: two bits each, by their numbers, of which 243 is the greatest.
                row = code(code(taken16(18 + 20), 0, counts(1), 0), 16, counts(0, 3), 0, 240, symbol).scan(1, 0).bits("0" + "01" + "10" + number + "00");
            } else if (zeros < 31) {
                row = code(code(taken16(18 + 20), 0, counts(1), 0), 16, counts(0, 3), 0, symbol, 240).scan(1, 0).bits("0" + "10" + "01" + number + "00");
            } else {
                // 240 twice or three times, the others once: one, two and three bits.
                row = code(code(taken16(18 + 20), 0, counts(1), 0), 16, counts(1, 1, 1), 240, symbol, 0).scan(1, 0)
                        .bits("0" + "0".repeat(zeros / 16) + "10" + number + "110");
            }
            sameOut(zeros + " levels 0 before another one", taken(levels), row.fillByte('1').mark(217));
        }
    }

    /** "A block's row ends with symbol 0 if its last level is 0": not otherwise; and levels 0 at the end make no 240. */
    private static void lastLevels() {
        int[] levels = new int[64];
        for (int k = 1; k < 64; k++) {
            levels[k] = k % 3 == 0 ? 1 : -1;
        }
        Rows row = code(code(taken16(18 + 18), 0, counts(1), 0), 16, counts(1), 1).scan(1, 0).bits("0");
        for (int k = 1; k < 64; k++) {
            row.bits("0" + (k % 3 == 0 ? "1" : "0"));
        }
        sameOut("63 levels", taken(levels), row.fillByte('1').mark(217));
        levels[63] = 0;
        row = code(code(taken16(18 + 19), 0, counts(1), 0), 16, counts(1, 1), 1, 0).scan(1, 0).bits("0");
        for (int k = 1; k < 63; k++) {
            row.bits("0" + (k % 3 == 0 ? "1" : "0"));
        }
        sameOut("62 levels and a 0", taken(levels), row.bits("10").fillByte('1').mark(217));
        levels = new int[64];
        levels[1] = 1;
        row = code(code(taken16(18 + 19), 0, counts(1), 0), 16, counts(1, 1), 1, 0).scan(1, 0).bits("0" + "01" + "10");
        sameOut("one level and 62 levels 0", taken(levels), row.fillByte('1').mark(217));
    }

    private static Consumer<BlockPicture> blocks(int... levels) {
        return x -> {
            x.canvas(8 * levels.length, 8, 1);
            x.scale(0, 8, 0);
            for (int i = 0; i < levels.length; i++) {
                x.fill(8 * i, 0, 8, 8, 128 + levels[i]);
            }
            x.pack(1, 1, 0);
        };
    }

    private static void starts(int[] levels, int[] counts, int[] symbols, String... codes) {
        Rows row = head(8).frame(8 * levels.length, 8, 1, 17, 0).mark(196).two(2 + 17 + symbols.length + 18);
        code(code(row, 0, counts, symbols), 16, counts(1), 0).scan(1, 0);
        int before = 0;
        for (int level : levels) {
            int more = level - before;
            before = level;
            int i = 0;
            while (symbols[i] != Rows.bitsOf(more)) {
                i++;
            }
            row.bits(codes[i]).bits(Rows.number(more)).bits("0");
        }
        sameOut("blocks " + Arrays.toString(levels), blocks(levels), row.fillByte('1').mark(217));
    }

    /** LENGTHS worked out by hand, line by line, of starts: what comes as often stands by numbers, symbols before twos. */
    private static void lengthsByHand() {
        // 0 alone: with 256 two things, one bit each.
        starts(new int[] {0, 0, 0}, counts(1), new int[] {0}, "0");
        // 0 once, 1 once: 256 and 0 are the first two; 1 has one bit.
        starts(new int[] {0, 1}, counts(1, 1), new int[] {1, 0}, "0", "10");
        // 0, 1, 2 once each: two bits each.
        starts(new int[] {0, 1, 3}, counts(0, 3), new int[] {0, 1, 2}, "00", "01", "10");
        // 1 and 2 once, 0 twice: 256 and 1 have three bits, 2 has two, 0 has one.
        starts(new int[] {0, 0, 1, 3}, counts(1, 1, 1), new int[] {0, 2, 1}, "0", "10", "110");
        // 0, 1, 2, 3 once each: 256 and 0 have three bits, the others two.
        starts(new int[] {0, 1, 3, 7}, counts(0, 3, 1), new int[] {1, 2, 3, 0}, "00", "01", "10", "110");
        // 0 to 4 once each: 256, 0, 1, 2 have three bits, 3 and 4 two.
        starts(new int[] {0, 1, 3, 7, 15}, counts(0, 2, 3), new int[] {3, 4, 0, 1, 2}, "00", "01", "100", "101", "110");
        // 0 to 5 once each: only 5 has two bits.
        starts(new int[] {0, 1, 3, 7, 15, 31}, counts(0, 1, 5), new int[] {5, 0, 1, 2, 3, 4}, "00", "010", "011", "100", "101", "110");
        // 0 to 6 once each: all have three bits.
        starts(new int[] {0, 1, 3, 7, 15, 31, 63}, counts(0, 0, 7), new int[] {0, 1, 2, 3, 4, 5, 6},
                "000", "001", "010", "011", "100", "101", "110");
    }

    /** "made of how often symbols come in the scan (by layers that share them)": the second and the third layer. */
    private static void layersThatShareCodes() {
        // Red: samples 76, 85, 255. By entries 8 levels -52, -43, 127: starts of 6 bits, and of 6 and 7 bits for the others.
        Rows row = new Rows().mark(216).mark(219).two(2 + 2 * 65).add(0).many(64, 8).add(1).many(64, 8)
                .frame(8, 8, 1, 17, 0, 2, 17, 1, 3, 17, 1).mark(196).two(2 + 3 * 18 + 19);
        code(row, 0, counts(1), 6);
        code(row, 16, counts(1), 0);
        code(row, 1, counts(1, 1), 7, 6);
        code(row, 17, counts(1), 0);
        row.scan(1, 0, 2, 17, 3, 17).bits("0" + Rows.number(-52) + "0").bits("10" + Rows.number(-43) + "0").bits("0" + Rows.number(127) + "0");
        sameOut("red", x -> {
            x.canvas(8, 8, 3);
            x.fill(0, 0, 8, 8, 0xFF0000);
            x.scale(0, 8, 0);
            x.scale(1, 8, 0);
            x.pack(1, 1, 0);
        }, row.fillByte('1').mark(217));
    }

    /** Starts of 11 bits, the most there are: black and white in turn. */
    private static void symbolsOfAllBits() {
        Rows row = head(1).frame(24, 8, 1, 17, 0).mark(196).two(2 + 18 + 18);
        code(code(row, 0, counts(1), 11), 16, counts(1), 0).scan(1, 0).bits("0" + Rows.number(-1024) + "0").bits("0" + Rows.number(2040) + "0")
                .bits("0" + Rows.number(-2040) + "0");
        sameOut("black and white", x -> {
            x.canvas(24, 8, 1);
            x.fill(8, 0, 8, 8, 255);
            x.pack(1, 1, 0);
        }, row.fillByte('1').mark(217));
    }

    private static void outIsAnewEachTime() {
        BlockPicture x = new BlockPicture();
        int first = x.pack(1, 1, 0);
        x.canvas(64, 64, 3);
        x.slope(0, 0, 64, 64, 0xFF0080, 0x40FF00);
        CHECKS.isTrue("a longer row", x.pack(1, 1, 1) > first);
        x.canvas(8, 8, 1);
        CHECKS.same("the first row again", x.pack(1, 1, 0), first);
        CHECKS.same("size()", x.size(), first);
        CHECKS.fails("a byte of the longer row", IndexOutOfBoundsException.class, () -> x.out(first));
    }
}
