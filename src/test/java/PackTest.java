import java.util.ArrayList;
import java.util.Arrays;
import java.util.Collections;
import java.util.List;
import java.util.Map;
import java.util.PriorityQueue;
import java.util.Random;
import java.util.TreeMap;
import java.util.function.Consumer;

/** Promises 8 to 10, and 19 of what was packed: pack, size, out, level; and that unpack() reads what pack() wrote. */
public final class PackTest {
    private static final Class<?> INDEX = IndexOutOfBoundsException.class;
    private static final Class<?> ARGUMENT = IllegalArgumentException.class;
    private static final Checks CHECKS = new Checks("PackTest");
    /** Symbols for rests, each about 1.6 times as often as the next one. */
    private static final Map<Integer, Integer> STEEP = steep();

    public static void main(String[] args) {
        scenes();
        noises();
        longCodes();
        longRows();
        manySymbols();
        blackCanvas();
        colourEdges();
        keepsWhatWasPacked();
        intervals();
        wrongPacks();
        wrongBytes();
        CHECKS.finish();
    }

    private static int[][] table(int a, int b, int c, int d) {
        int[][] tables = new int[2][64];
        for (int i = 0; i < 64; i++) {
            tables[0][i] = Math.max(1, Math.min(255, a + b * (i / 8 + i % 8)));
            tables[1][i] = Math.max(1, Math.min(255, c + d * (i / 8 + i % 8)));
        }
        return tables;
    }

    private static void scenes() {
        int[] sides = {1, 2, 7, 8, 9, 15, 16, 17, 24, 31, 33, 48, 49, 63, 64};
        Scenes numbers = new Scenes(5);
        for (int i = 0; i < 60; i++) {
            int width = sides[numbers.next(sides.length)];
            int height = sides[numbers.next(sides.length)];
            int planes = i % 3 == 0 ? 1 : 3;
            int interval = numbers.next(3) == 0 ? 0 : 1 + numbers.next(9);
            compare(Scenes.scene(i, width, height, planes, 12), new int[] {width, height, planes},
                    new int[] {1 + i % 2, 1 + i / 2 % 2, interval}, new int[] {1 + numbers.next(20), numbers.next(6), 1 + numbers.next(40), 0});
        }
    }

    private static void noises() {
        for (int i = 0; i < 8; i++) {
            int planes = i % 2 == 0 ? 3 : 1;
            compare(Scenes.noise(i, 24, 17, planes), new int[] {24, 17, planes},
                    new int[] {1 + i / 2 % 2, 1 + i / 4 % 2, i == 7 ? 65535 : i}, new int[] {1, 0, 1, 0});
        }
    }

    /** Packs a scene (width, height, planes; across, down, interval; scales) and compares all that can be seen of it. */
    private static void compare(Consumer<BlockPicture> scene, int[] form, int[] how, int[] scales) {
        Consumer<BlockPicture> packed = scene.andThen(x -> {
            x.scale(0, scales[0], scales[1]);
            x.scale(1, scales[2], scales[3]);
            x.pack(how[0], how[1], how[2]);
        });
        int[][] tables = table(scales[0], scales[1], scales[2], scales[3]);
        Plain due = Plain.pack(Scenes.read(scene, form[0], form[1], form[2]), tables, how[0], how[1], how[2]);
        String what = form[0] + " by " + form[1] + " by " + form[2] + ", " + how[0] + " " + how[1] + " " + how[2];
        CHECKS.same("pack " + what, Checks.with(packed).size(), due.row.size());
        if (Checks.with(packed).size() == due.row.size()) {
            CHECKS.sameRow("out " + what, Checks.readMany(packed, due.row.size(), (x, i) -> x.out(i)), due.row.row());
        }
        Consumer<BlockPicture> unpacked = packed.andThen(x -> {
            CHECKS.same("turn " + what, x.turn(), x.size());
            CHECKS.same("unpack " + what, x.unpack(), 0);
            CHECKS.same("place " + what, x.place(), -1);
        });
        compareLevels(what, unpacked, due);
        comparePicture(what, unpacked, due, tables);
    }

    private static void compareLevels(String what, Consumer<BlockPicture> unpacked, Plain due) {
        for (int layer = 0; layer < due.levels.length; layer++) {
            int[][] blocks = due.levels[layer];
            for (int which = 0; which < 2; which++) {
                int side = which;
                int one = layer;
                int[] got = Checks.readMany(unpacked, 64 * blocks.length, (x, i) -> x.level(side, one, i / 64, i % 64));
                for (int i = 0; i < got.length; i++) {
                    CHECKS.same("level " + what, got[i], blocks[i / 64][i % 64]);
                }
                CHECKS.fails("a block too many", INDEX,
                        () -> Checks.with(unpacked).level(side, one, blocks.length, 0));
            }
        }
    }

    private static void comparePicture(String what, Consumer<BlockPicture> unpacked, Plain due, int[][] tables) {
        int[][] byRow = new int[2][64];
        for (int k = 0; k < 64; k++) {
            int[] place = Plain.slants().get(k);
            byRow[0][k] = tables[0][8 * place[0] + place[1]];
            byRow[1][k] = tables[1][8 * place[0] + place[1]];
        }
        int[] samples = Scenes.flat(due.show(new int[][] {byRow[0], byRow[1], byRow[1]}));
        int[] got = Checks.readMany(unpacked, samples.length,
                (x, i) -> x.sample(i % due.width, i / due.width % due.height, i / due.width / due.height));
        CHECKS.sameRow("sample " + what, got, samples);
        Consumer<BlockPicture> taken = unpacked.andThen(BlockPicture::take);
        got = Scenes.flat(Scenes.read(taken, due.width, due.height, due.levels.length));
        CHECKS.sameRow("at " + what, got, samples);
    }

    /** Symbols that come ever less often would have codes of 17 bits, were 16 not the most. */
    private static void longCodes() {
        Map<Integer, Integer> lengths = Plain.lengths(STEEP);
        long whole = 0;
        for (int length : lengths.values()) {
            whole += 1L << 16 - length;
        }
        CHECKS.same("the codes with that of 256 are all there are", whole, 1L << 16);
        CHECKS.same("the longest code", lengths.get(256), 16);
        CHECKS.same("the longest code without the limit", longestWithoutLimit(), 17);
        compare(PackTest::takeSteep, new int[] {64, 64, 3}, new int[] {1, 1, 0}, new int[] {8, 0, 8, 0});
        BlockPicture x = Checks.with(PackTest::takeSteep);
        x.scale(0, 8, 0);
        x.scale(1, 8, 0);
        x.pack(1, 1, 0);
        int restsAt = 2 + 134 + 19 + 4 + 2 * 18 + 17 + Plain.lengths(Map.of(0, 64)).size() - 1;
        CHECKS.same("how many codes of 16 bits the rests of the other layers have", x.out(restsAt + 16),
                lengths.values().stream().filter(length -> length == 16).count() - 1);
    }

    private static Map<Integer, Integer> steep() {
        int[] symbols = {0x01, 0x02, 0x11, 0x12, 0x21, 0x03, 0, 0x31, 0x22, 0x41, 0x13, 0x51, 0x61, 0x71, 0x23, 0x81, 0x04};
        Map<Integer, Integer> often = new TreeMap<>();
        int last = 1;
        int next = 1;
        for (int i = symbols.length - 1; i >= 0; i--) {
            often.put(symbols[i], last);
            int sum = last + next;
            last = next;
            next = sum;
        }
        return often;
    }

    private static int longestWithoutLimit() {
        PriorityQueue<int[]> trees = new PriorityQueue<>((a, b) -> a[0] != b[0] ? a[0] - b[0] : a[1] - b[1]);
        trees.add(new int[] {0, 0});
        STEEP.values().forEach(n -> trees.add(new int[] {n, 0}));
        while (trees.size() > 1) {
            int[] a = trees.remove();
            int[] b = trees.remove();
            trees.add(new int[] {a[0] + b[0], 1 + Math.max(a[1], b[1])});
        }
        return trees.remove()[1];
    }

    /** Takes a picture whose second and third layer have just these symbols: the small levels come back when it is packed. */
    private static void takeSteep(BlockPicture x) {
        List<Integer> symbols = new ArrayList<>();
        STEEP.forEach((symbol, n) -> symbols.addAll(Collections.nCopies(symbol == 0 || symbol == 1 ? 0 : n, symbol)));
        Collections.shuffle(symbols, new Random(1));
        List<List<Integer>> blocks = new ArrayList<>();
        int ones = STEEP.get(1);
        int at = 0;
        // Blocks that are told to their end have no symbol 0: the rest of them is filled with levels of one bit.
        for (int full = 128 - STEEP.get(0); full > 0; full--) {
            List<Integer> block = new ArrayList<>();
            for (int k = 1; k < 64; k += 1 + block.get(block.size() - 1) / 16) {
                if (k < 34) {
                    block.add(symbols.get(at++));
                } else {
                    block.add(1);
                    ones--;
                }
            }
            blocks.add(block);
        }
        List<Integer> rest = new ArrayList<>(symbols.subList(at, symbols.size()));
        rest.addAll(Collections.nCopies(ones, 1));
        Collections.shuffle(rest, new Random(2));
        int ended = STEEP.get(0);
        for (int i = 0; i < ended; i++) {
            List<Integer> block = new ArrayList<>(rest.subList(rest.size() * i / ended, rest.size() * (i + 1) / ended));
            block.add(0);
            blocks.add(block);
        }
        typeBlocks(x, blocks);
        x.take();
    }

    private static void typeBlocks(BlockPicture x, List<List<Integer>> blocks) {
        Rows row = new Rows().mark(216).table(0, 8).starts(0).rests(0).frame(64, 64, 1, 17, 0, 2, 17, 0, 3, 17, 0);
        row.scan(1, 0).bits(Rows.binary(0, 12).repeat(64)).fillByte('1');
        Random signs = new Random(3);
        for (int i = 0; i < 128; i++) {
            if (i % 64 == 0) {
                row.fillByte('1').scan(2 + i / 64, 0);
            }
            row.start(0);
            for (int symbol : blocks.get(i)) {
                int least = 1 << symbol % 16 - 1;
                row.restSymbol(symbol).bits(symbol == 0 ? "" : Rows.number(signs.nextBoolean() ? least : -least));
            }
        }
        row.fillByte('1').mark(217).type(x);
        CHECKS.same("unpack of steep blocks", x.unpack(), 0);
    }

    /** Great levels all over the largest canvas: as long a row as the calls of one object can make. */
    private static void longRows() {
        compare(PackTest::takeWild, new int[] {64, 64, 3}, new int[] {1, 1, 1}, new int[] {1, 0, 1, 0});
        compare(PackTest::takeWild, new int[] {64, 64, 3}, new int[] {2, 2, 0}, new int[] {1, 0, 3, 0});
    }

    private static void takeWild(BlockPicture x) {
        Rows row = new Rows().mark(216).table(0, 200).starts(0).rests(0).frame(64, 64, 1, 17, 0, 2, 17, 0, 3, 17, 0);
        for (int layer = 0; layer < 3; layer++) {
            Scenes numbers = new Scenes(layer);
            row.scan(layer + 1, 0);
            for (int block = 0; block < 64; block++) {
                int[] levels = new int[64];
                for (int k = 1; k < 64; k += 1 + numbers.next(3)) {
                    levels[k] = numbers.next(3) - 1;
                }
                row.block(0, levels);
            }
            row.fillByte('1');
        }
        row.mark(217).type(x);
        CHECKS.same("unpack of wild blocks", x.unpack(), 0);
        x.take();
    }

    /** More symbols than half of all that there could be, each of them once or a few times. */
    private static void manySymbols() {
        compare(PackTest::takeMany, new int[] {64, 64, 1}, new int[] {1, 1, 0}, new int[] {3, 0, 1, 0});
        BlockPicture x = Checks.with(PackTest::takeMany);
        x.scale(0, 3, 0);
        x.pack(1, 1, 0);
        int startsAt = 2 + 69 + 13 + 4;
        int starts = 0;
        for (int n = 1; n <= 16; n++) {
            starts += x.out(startsAt + n);
        }
        int restsAt = startsAt + 17 + starts;
        CHECKS.same("where the code for rests stands", x.out(restsAt), 16);
        int rests = 0;
        for (int n = 1; n <= 16; n++) {
            rests += x.out(restsAt + n);
        }
        CHECKS.isTrue("there are many symbols: " + rests, rests > 128);
    }

    /** Takes a picture of waves so few in each block that its samples stay within 0 .. 255: their levels come back by entries 3. */
    private static void takeMany(BlockPicture x) {
        List<int[]> symbols = new ArrayList<>();
        for (int n = 8; n >= 1; n--) {
            for (int j = 0; j < 16; j++) {
                symbols.add(new int[] {j, n});
            }
        }
        Rows row = new Rows().mark(216).table(0, 3).starts(0).rests(0).frame(64, 64, 1, 17, 0).scan(1, 0);
        for (int block = 0; block < 64; block++) {
            int[] levels = new int[64];
            int room = 122;
            int k = 1;
            for (int i = 0; i < symbols.size(); i++) {
                int[] symbol = symbols.get(i);
                // A little more than the least level of so many bits: it may come back as one less.
                int level = (1 << symbol[1] - 1) + (symbol[1] > 2 ? 1 : 0);
                if (k + symbol[0] < 64 && 3 * level / 4 + 1 <= room) {
                    k += symbol[0];
                    levels[k] = block % 2 == 0 ? level : -level;
                    k++;
                    room -= 3 * level / 4 + 1;
                    symbols.remove(i);
                    i--;
                }
            }
            // Blocks that are left over have long runs.
            levels[63] = k == 1 ? 7 : levels[63];
            row.block(0, levels);
        }
        CHECKS.same("symbols that found no room", symbols.size(), 0);
        row.fillByte('1').mark(217).type(x);
        CHECKS.same("unpack of many symbols", x.unpack(), 0);
        x.take();
    }

    private static void blackCanvas() {
        BlockPicture x = new BlockPicture();
        int[] due = new Rows().mark(216).table(0, 1).frame(8, 8, 1, 17, 0)
                .mark(196).two(38).add(0, 1).many(15, 0).add(11).add(16, 1).many(15, 0).add(0).scan(1, 0)
                .bits("0" + Rows.number(-1024) + "0").fillByte('1').mark(217).row();
        CHECKS.same("pack of a black canvas", x.pack(1, 1, 0), due.length);
        for (int i = 0; i < due.length; i++) {
            CHECKS.same("out(" + i + ") of a black canvas", x.out(i), due[i]);
        }
    }

    /** Colours whose first sample is just below the next whole number (no other one's can be so near), and the greatest ones. */
    private static void colourEdges() {
        int found = 0;
        for (int c = 0; c < 1 << 24 && found < 20; c++) {
            int sum = 19595 * (c >> 16) + 38470 * (c >> 8 & 255) + 7471 * (c & 255);
            if ((sum + 32768 & 65535) == 65535) {
                compareColour(c);
                found++;
            }
        }
        CHECKS.same("how many edges were found", found, 20);
        for (int c : new int[] {0xFF0000, 0x00FF00, 0x0000FF, 0xFFFF00, 0x00FFFF, 0xFF00FF, 0xFFFFFF}) {
            compareColour(c);
        }
    }

    private static void compareColour(int c) {
        BlockPicture x = new BlockPicture();
        x.canvas(1, 1, 3);
        x.fill(0, 0, 1, 1, c);
        x.pack(1, 1, 0);
        int[] kinds = Plain.kinds(c >> 16, c >> 8 & 255, c & 255);
        for (int layer = 0; layer < 3; layer++) {
            int[][] even = new int[8][8];
            for (int[] row : even) {
                Arrays.fill(row, kinds[layer]);
            }
            CHECKS.same("layer " + layer + " of colour " + c, x.level(0, layer, 0, 0), Plain.weights(even)[0][0]);
        }
    }

    private static void keepsWhatWasPacked() {
        BlockPicture x = new BlockPicture();
        x.canvas(20, 8, 1);
        x.fill(0, 0, 20, 8, 200);
        x.pack(2, 2, 0);
        int size = x.size();
        x.canvas(8, 8, 3);
        x.scale(0, 9, 9);
        CHECKS.same("size() stays", x.size(), size);
        CHECKS.same("a level stays", x.level(0, 0, 0, 0), 576);
        CHECKS.same("the last block that is told", x.level(0, 0, 2, 0), 576);
        CHECKS.same("a block that no scan told", x.level(0, 0, 3, 0), 0);
        CHECKS.same("a block of a row that no scan told", x.level(0, 0, 7, 0), 0);
        CHECKS.fails("no block", INDEX, () -> x.level(0, 0, 8, 0));
        CHECKS.fails("no layer", INDEX, () -> x.level(0, 1, 0, 0));
        x.pack(1, 1, 0);
        CHECKS.same("levels of the next one", x.level(0, 2, 0, 0), 0);
        CHECKS.fails("its blocks", INDEX, () -> x.level(0, 0, 1, 0));
    }

    private static void intervals() {
        Consumer<BlockPicture> scene = Scenes.scene(3, 64, 64, 1, 9);
        for (int interval : new int[] {1, 5, 63, 64, 65, 65535}) {
            compare(scene, new int[] {64, 64, 1}, new int[] {1, 2, interval}, new int[] {9, 1, 1, 0});
        }
    }

    private static void wrongPacks() {
        BlockPicture x = new BlockPicture();
        int[][] wrong = {{0, 1, 0}, {3, 1, 0}, {1, 0, 0}, {1, 3, 0}, {1, 1, -1}, {1, 1, 65536}, {-1, 1, 0},
            {Integer.MIN_VALUE, 1, 0}, {1, Integer.MAX_VALUE, 0}, {1, 1, Integer.MIN_VALUE}};
        for (int[] w : wrong) {
            CHECKS.fails("pack(" + w[0] + ", " + w[1] + ", " + w[2] + ")", ARGUMENT, () -> x.pack(w[0], w[1], w[2]));
        }
        CHECKS.same("wrong packs change nothing", x.size(), 0);
        CHECKS.fails("nothing was packed", IllegalStateException.class, () -> x.level(0, 0, 0, 0));
        int size = x.pack(1, 1, 65535);
        CHECKS.fails("pack(3, 3, 0)", ARGUMENT, () -> x.pack(3, 3, 0));
        CHECKS.same("OUT stays", x.size(), size);
        CHECKS.same("levels stay", x.level(0, 0, 0, 0), -1024);
    }

    private static void wrongBytes() {
        BlockPicture x = new BlockPicture();
        int size = x.pack(1, 1, 0);
        CHECKS.same("the last byte", x.out(size - 1), 217);
        for (int i : new int[] {-1, size, Integer.MIN_VALUE, Integer.MAX_VALUE}) {
            CHECKS.fails("out(" + i + ")", INDEX, () -> x.out(i));
        }
    }
}
