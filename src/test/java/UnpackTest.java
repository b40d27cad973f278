import java.util.Arrays;
import java.util.function.Consumer;

/** Promise 15, with 17 to 19: rows that are right in all the ways in which they may be so. */
public final class UnpackTest {
    private static final Checks CHECKS = new Checks("UnpackTest");

    public static void main(String[] args) {
        for (int seed = 0; seed < 150; seed++) {
            RandomRow made = new RandomRow(seed, 64);
            compare("row " + seed, made.due, made.tables, made.row::type);
        }
        fixedRow();
        severalInOneSection();
        toldAgain();
        noCodesAtAll();
        symbolsTwice();
        exactlySixtyFour();
        CHECKS.finish();
    }

    /** Tables: of each layer, by THE ROW. */
    private static void compare(String what, Plain due, int[][] tables, Consumer<BlockPicture> typed) {
        Consumer<BlockPicture> unpacked = typed.andThen(x -> CHECKS.same("unpack() of " + what + " at " + x.place(), x.unpack(), 0));
        BlockPicture x = Checks.with(unpacked);
        CHECKS.same("place() of " + what, x.place(), -1);
        if (x.place() != -1) {
            return;
        }
        CHECKS.same("about(0) of " + what, x.about(0), due.width);
        CHECKS.same("about(1) of " + what, x.about(1), due.height);
        CHECKS.same("about(2) of " + what, x.about(2), due.levels.length);
        for (int layer = 0; layer < due.levels.length; layer++) {
            int one = layer;
            int[][] blocks = due.levels[layer];
            int[] got = Checks.readMany(unpacked, 64 * blocks.length, (y, i) -> y.level(1, one, i / 64, i % 64));
            for (int i = 0; i < got.length; i++) {
                CHECKS.same("level of " + what, got[i], blocks[i / 64][i % 64]);
            }
            CHECKS.fails("a block too many of " + what, IndexOutOfBoundsException.class, () -> x.level(1, one, blocks.length, 0));
        }
        int[] samples = Scenes.flat(due.show(tables));
        int[] got = Checks.readMany(unpacked, samples.length,
                (y, i) -> y.sample(i % due.width, i / due.width % due.height, i / due.width / due.height));
        CHECKS.sameRow("sample of " + what, got, samples);
    }

    private static int[] even(int entry) {
        int[] table = new int[64];
        Arrays.fill(table, entry);
        return table;
    }

    /** Written down bit by bit: codes 00, 01, 10 of starts 0, 3, 1 and codes 0, 10 of rests 0, 1. */
    private static void fixedRow() {
        Plain due = new Plain(16, 8, new int[][] {{1, 2}});
        due.levels[0][0][0] = 5;
        due.levels[0][0][1] = 1;
        due.levels[0][0][2] = -1;
        due.levels[0][1][0] = 4;
        compare("the fixed row", due, new int[][] {even(8)}, x -> new Rows().add(255, 255, 255).mark(216).table(3, 8)
                .mark(196).two(22).add(0, 0, 3).many(14, 0).add(0, 3, 1)
                .mark(196).two(21).add(16, 1, 1).many(14, 0).add(0, 1)
                .frame(16, 8, 0, 18, 3).scan(0, 0)
                .bits("01" + "101" + "10" + "1" + "10" + "0" + "0" + "10" + "0" + "0").fillByte('1').mark(217).type(x));
    }

    private static void severalInOneSection() {
        Plain due = new Plain(3, 2, new int[][] {{2, 2}, {1, 2}, {2, 1}});
        due.levels[0][0][0] = 100;
        due.levels[2][0][63] = -9;
        compare("several in one section", due, new int[][] {even(2), even(3), even(4)}, x -> {
            Rows row = new Rows().mark(216).mark(219).two(2 + 4 * 65);
            for (int table = 3; table >= 0; table--) {
                row.add(table).many(64, table + 1);
            }
            row.mark(196).two(2 + 4 * 18).add(0, 1).many(15, 0).add(7).add(17, 1).many(15, 0).add(0)
                    .add(16, 1).many(15, 0).add(0).add(1, 1).many(15, 0).add(0);
            row.frame(3, 2, 200, 34, 1, 0, 18, 2, 255, 33, 3);
            row.scan(200, 0).bits("0" + "1100100" + "0").fillByte('1');
            row.starts(1).scan(0, 16).bits("0000" + "0").fillByte('1');
            row.rests(1).interval(1).scan(255, 17).block(0, due.levels[2][0]).fillByte('0').mark(217);
            row.type(x);
        });
    }

    /** A layer goes by its table, a scan by its codes and the INTERVAL as they are when the scan is read. */
    private static void toldAgain() {
        Plain due = new Plain(16, 8, new int[][] {{1, 1}, {1, 1}, {1, 1}});
        int[][] levels = new int[3][64];
        for (int layer = 0; layer < 3; layer++) {
            levels[layer][0] = 10 + layer;
            levels[layer][5 + layer] = -7;
            due.levels[layer][0] = levels[layer];
            due.levels[layer][1] = levels[layer];
        }
        compare("what is told again", due, new int[][] {even(5), even(9), even(9)}, x -> {
            Rows row = new Rows().mark(216).table(0, 77).table(0, 5).starts(0).rests(0).interval(1).interval(0);
            row.frame(16, 8, 1, 17, 0, 2, 17, 0, 3, 17, 0);
            row.scan(1, 0).block(0, levels[0]).block(10, levels[0]).fillByte('1');
            row.table(0, 9).interval(1);
            row.scan(2, 0).block(0, levels[1]).fillByte('1').mark(208).block(0, levels[1]).fillByte('1');
            // Starts 0 is now a code of 1 bit for 4 bits; the INTERVAL stays.
            row.mark(196).two(20).add(0, 1).many(15, 0).add(4);
            row.scan(3, 0).bits("01100").rest(6, -7).restSymbol(0).fillByte('1').mark(208).bits("01100").rest(6, -7).restSymbol(0)
                    .fillByte('1').table(0, 33).mark(217);
            row.type(x);
        });
    }

    private static void noCodesAtAll() {
        Plain due = new Plain(8, 8, new int[][] {{1, 1}});
        compare("codes without any", due, new int[][] {even(1)}, x -> new Rows().mark(216).table(0, 1)
                .mark(196).two(2 + 2 * 17).add(1).many(16, 0).add(17).many(16, 0).starts(0).rests(0).frame(8, 8, 4, 17, 0)
                .scan(4, 0).block(0, new int[64]).fillByte('1').mark(217).type(x));
    }

    private static void symbolsTwice() {
        Plain due = new Plain(8, 8, new int[][] {{1, 1}});
        due.levels[0][0][0] = 1;
        compare("symbols with several codes", due, new int[][] {even(1)}, x -> new Rows().mark(216).table(0, 1)
                .mark(196).two(22).add(0, 0, 3).many(14, 0).add(1, 0, 1)
                .mark(196).two(22).add(16, 0, 3).many(14, 0).add(0, 1, 0).frame(8, 8, 4, 17, 0)
                .scan(4, 0).bits("10" + "1" + "10").fillByte('1').mark(217).type(x));
    }

    /** Behind 240 k may be 64, which ends a block without a symbol 0. */
    private static void exactlySixtyFour() {
        Plain due = new Plain(16, 8, new int[][] {{1, 1}});
        due.levels[0][0][47] = 2;
        due.levels[0][1][63] = -3;
        due.levels[0][1][0] = 1;
        compare("240 up to 64", due, new int[][] {even(1)}, x -> new Rows().mark(216).table(0, 1).starts(0).rests(0)
                .frame(16, 8, 4, 17, 0).scan(4, 0)
                .start(0).restSymbol(240).restSymbol(240).rest(14, 2).restSymbol(240)
                .start(1).restSymbol(240).restSymbol(240).restSymbol(240).rest(14, -3).fillByte('1').mark(217).type(x));
    }
}
