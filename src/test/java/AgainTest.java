import java.util.Arrays;
import java.util.function.Consumer;

/** One object used again and again (promises 2, 8, 14, 15, 18 to 20): nothing of a canvas, row or picture before stays in the next. */
public final class AgainTest {
    private static final Checks CHECKS = new Checks("AgainTest");
    private static final int[] SIDES = {1, 3, 8, 9, 16, 17, 25, 33};

    public static void main(String[] args) {
        packedAgain();
        unpackedAgain();
        sectionsOfTheRowBefore();
        picturesInTurn();
        takenAgain();
        CHECKS.finish();
    }

    /** Canvases of other sizes, planes, factors, INTERVALS and tables, packed by one object, are packed as by a new one. */
    private static void packedAgain() {
        for (int seed = 0; seed < 12; seed++) {
            Scenes numbers = new Scenes(seed);
            BlockPicture x = new BlockPicture();
            for (int i = 0; i < 6; i++) {
                int width = SIDES[numbers.next(SIDES.length)];
                int height = SIDES[numbers.next(SIDES.length)];
                int planes = 1 + 2 * numbers.next(2);
                int across = 1 + numbers.next(2);
                int down = 1 + numbers.next(2);
                int interval = numbers.next(4);
                int a = 1 + numbers.next(60);
                Consumer<BlockPicture> calls = Scenes.scene(100 * seed + i, width, height, planes, 5).andThen(y -> {
                    y.scale(0, a, 1);
                    y.scale(1, a, 3);
                    y.pack(across, down, interval);
                });
                calls.accept(x);
                compareOut("canvas " + i + " of " + seed, x, Checks.with(calls), numbers);
            }
        }
    }

    /** As many bytes as the calls of one object allow, the last ones with them; and levels of all layers. */
    private static void compareOut(String what, BlockPicture x, BlockPicture due, Scenes numbers) {
        CHECKS.same("size() of " + what, x.size(), due.size());
        for (int i = 0; i < 40 && x.size() == due.size(); i++) {
            int at = i < 12 ? x.size() - 1 - i : numbers.next(x.size());
            CHECKS.same("out(" + at + ") of " + what, x.out(at), due.out(at));
        }
        for (int i = 0; i < 20; i++) {
            int layer = i % 3;
            int block = i / 3;
            int k = i < 9 ? 0 : numbers.next(64);
            CHECKS.same("level of " + what, levelOf(x, 0, layer, block, k), levelOf(due, 0, layer, block, k));
        }
    }

    /** A level, or a number that none can be if there is no such block. */
    private static int levelOf(BlockPicture x, int which, int layer, int block, int k) {
        try {
            return x.level(which, layer, block, k);
        } catch (IndexOutOfBoundsException e) {
            return Integer.MIN_VALUE;
        }
    }

    /** Rows of all kinds, unpacked by one object and drawn in between, give what a new object gives of them. */
    private static void unpackedAgain() {
        for (int seed = 0; seed < 40; seed++) {
            BlockPicture x = new BlockPicture();
            Scenes numbers = new Scenes(seed);
            for (int i = 0; i < 5; i++) {
                RandomRow made = new RandomRow(1000 + 5 * seed + i, 17);
                made.row.type(x);
                CHECKS.same("unpack()", x.unpack(), 0);
                CHECKS.same("about(0)", x.about(0), made.due.width);
                CHECKS.same("about(1)", x.about(1), made.due.height);
                CHECKS.same("about(2)", x.about(2), made.due.levels.length);
                compareLevels(x, made);
                if (numbers.next(4) > 0) {
                    compareSamples(x, made, numbers);
                }
                if (numbers.next(3) == 0) {
                    x.change(numbers.next(made.row.size()), 1 + numbers.next(255));
                    x.unpack();
                }
            }
        }
    }

    private static void compareLevels(BlockPicture x, RandomRow made) {
        for (int layer = 0; layer < made.due.levels.length; layer++) {
            for (int block = 0; block < made.due.levels[layer].length; block++) {
                for (int k : new int[] {0, 1, 2, 30, 63}) {
                    CHECKS.same("a level", x.level(1, layer, block, k), made.due.levels[layer][block][k]);
                }
            }
        }
    }

    private static void compareSamples(BlockPicture x, RandomRow made, Scenes numbers) {
        int[][][] planes = made.due.show(made.tables);
        for (int i = 0; i < 15; i++) {
            int plane = numbers.next(planes.length);
            int px = i == 0 ? made.due.width - 1 : numbers.next(made.due.width);
            int py = i == 0 ? made.due.height - 1 : numbers.next(made.due.height);
            CHECKS.same("a sample", x.sample(px, py, plane), planes[plane][py][px]);
        }
    }

    private static void sameFault(String what, int fault, int place, BlockPicture x, Rows row) {
        row.type(x);
        CHECKS.same("unpack() of " + what, x.unpack(), fault);
        CHECKS.same("place() of " + what, x.place(), place);
    }

    /** What one row told is not told for the next one: each table, each code, the INTERVAL, the frame, layers in scans, first levels. */
    private static void sectionsOfTheRowBefore() {
        BlockPicture x = new BlockPicture();
        Rows all = new Rows().mark(216).interval(1);
        for (int table = 0; table < 4; table++) {
            all.table(table, 8);
        }
        all.starts(0).starts(1).rests(0).rests(1).frame(16, 8, 1, 17, 0).scan(1, 0).start(900).restSymbol(0).fillByte('1').mark(208)
                .start(901).restSymbol(0).fillByte('1').mark(217);
        sameFault("a row that tells all", 0, -1, x, all);
        for (int table = 0; table < 4; table++) {
            Rows row = new Rows().mark(216).starts(0).rests(0).frame(8, 8, 1, 17, table);
            sameFault("a row without table " + table, 6, row.size() + 5, x, row.scan(1, 0));
            sameFault("a row that tells all", 0, -1, x, all);
        }
        for (int codes : new int[] {0, 1, 16, 17}) {
            Rows row = new Rows().mark(216).table(0, 8).rests(codes % 16).frame(8, 8, 1, 17, 0);
            sameFault("a row without its starts", 6, row.size() + 6, x, row.scan(1, codes));
            sameFault("a row that tells all", 0, -1, x, all);
            row = new Rows().mark(216).table(0, 8).starts(codes / 16).frame(8, 8, 1, 17, 0);
            sameFault("a row without its rests", 6, row.size() + 6, x, row.scan(1, codes));
            sameFault("a row that tells all", 0, -1, x, all);
        }
        Rows row = new Rows().mark(216).table(0, 8).starts(0).rests(0);
        sameFault("a row without a frame", 3, row.size() + 1, x, row.scan(1, 0));
        row = new Rows().mark(216);
        sameFault("a row without anything", 3, row.size() + 1, x, row.mark(217));
        row = new Rows().mark(216).frame(16, 8, 1, 17, 0);
        sameFault("a row without a scan", 3, row.size() + 1, x, row.mark(217));
        row = new Rows().mark(216).table(0, 8).starts(0).rests(0).frame(16, 8, 1, 17, 0).scan(1, 0).start(5).restSymbol(0).start(1).restSymbol(0);
        sameFault("a row without an INTERVAL", 0, -1, x, row.fillByte('1').mark(217));
        CHECKS.same("its first level", x.level(1, 0, 0, 0), 5);
        CHECKS.same("its second level", x.level(1, 0, 1, 0), 6);
        // A FAULT within DATA: bits that were left over, levels and layers count for nothing then.
        for (int i = 0; i < 3; i++) {
            row = new Rows().mark(216).table(0, 8).starts(0).rests(0).frame(16, 8, 1, 17, 0).scan(1, 0).start(77).rest(0, 1).bits("0").fillByte('0');
            sameFault("a row cut within DATA", 1, row.size(), x, row);
            sameFault("a row that tells all", 0, -1, x, all);
            CHECKS.same("its first level", x.level(1, 0, 0, 0), 900);
            CHECKS.same("its second level", x.level(1, 0, 1, 0), 901);
            CHECKS.same("a level that only the other row told", x.level(1, 0, 0, 1), 0);
        }
    }

    /** Two pictures in turn: the one that is shown, and drawn, is always the latest one that was right. */
    private static void picturesInTurn() {
        BlockPicture x = new BlockPicture();
        int[] greys = {10, 200, 77, 128, 0, 255};
        for (int i = 0; i < 24; i++) {
            int grey = greys[i % greys.length];
            int side = 1 + 7 * i % 64;
            x.canvas(side, 65 - side, i % 2 == 0 ? 1 : 3);
            x.fill(0, 0, side, 65 - side, 0x010101 * grey);
            x.pack(1 + i % 2, 1 + i / 2 % 2, i % 3);
            x.turn();
            CHECKS.same("unpack()", x.unpack(), 0);
            if (i % 4 != 3) {
                CHECKS.same("the last sample", x.sample(side - 1, 64 - side, i % 2 == 0 ? 0 : 2), grey);
            }
            x.end(x.size() - 2);
            CHECKS.same("unpack() of the row that is cut", x.unpack(), 1);
            CHECKS.same("the first sample stays", x.sample(0, 0, 0), grey);
            CHECKS.same("the width stays", x.about(0), side);
        }
    }

    /** A canvas that was taken is painted and packed as any other one. */
    private static void takenAgain() {
        BlockPicture x = new BlockPicture();
        x.canvas(20, 20, 3);
        x.fill(0, 0, 20, 20, 0x336699);
        x.pack(1, 1, 0);
        x.turn();
        x.unpack();
        x.canvas(5, 4, 1);
        x.fill(0, 0, 5, 4, 50);
        x.pack(1, 1, 0);
        x.turn();
        CHECKS.same("unpack()", x.unpack(), 0);
        x.take();
        CHECKS.same("the canvas", x.at(4, 3, 0), 50);
        CHECKS.fails("it is no wider", IndexOutOfBoundsException.class, () -> x.at(5, 0, 0));
        CHECKS.fails("it is no higher", IndexOutOfBoundsException.class, () -> x.at(0, 4, 0));
        CHECKS.fails("it has one plane", IndexOutOfBoundsException.class, () -> x.at(0, 0, 1));
        x.fill(0, 0, 1, 1, 60);
        CHECKS.same("it can be painted", x.at(0, 0, 0), 60);
        CHECKS.same("the picture stays", x.sample(0, 0, 0), 50);
        x.canvas(20, 20, 3);
        int[] seen = new int[3];
        for (int plane = 0; plane < 3; plane++) {
            seen[plane] = x.at(10, 10, plane) + x.at(0, 0, plane) + x.at(19, 19, plane);
        }
        CHECKS.isTrue("a new canvas is 0", Arrays.equals(seen, new int[3]));
    }
}
