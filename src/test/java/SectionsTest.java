import java.util.Arrays;
import java.util.List;

/** A PACKED ROW (promise 15): what its sections may just be, and what they may just not be, sentence by sentence. */
public final class SectionsTest {
    private static final Checks CHECKS = new Checks("SectionsTest");

    public static void main(String[] args) {
        bytesBeforeMarks();
        numbersOfTwoBytes();
        howManyTables();
        entriesOfTables();
        howManyCodes();
        codesOfEachLength();
        noBitsOneAlone();
        mostCodes();
        symbolsOfCodes();
        sidesOfFrames();
        namesOfLayers();
        factorsOfLayers();
        tablesOfLayers();
        intervals();
        anything();
        codesOfScans();
        endsOfScans();
        layersOfScans();
        orderOfSections();
        toldAgain();
        blocksTogether();
        CHECKS.finish();
    }

    private static BlockPicture right(String what, Rows row) {
        BlockPicture x = new BlockPicture();
        row.type(x);
        CHECKS.same("unpack() of " + what, x.unpack(), 0);
        CHECKS.same("place() of " + what, x.place(), -1);
        return x;
    }

    private static void wrong(String what, int fault, int place, Rows row) {
        BlockPicture x = new BlockPicture();
        row.type(x);
        CHECKS.same("unpack() of " + what, x.unpack(), fault);
        CHECKS.same("place() of " + what, x.place(), place);
    }

    private static Rows head() {
        return new Rows().mark(216);
    }

    /** Table, codes and frame of a picture of one block. */
    private static Rows told() {
        return head().table(0, 8).starts(0).rests(0).frame(8, 8, 1, 17, 0);
    }

    /** The rest of a row whose scan has one block: its first level is 5. */
    private static Rows finish(Rows row) {
        return row.start(5).restSymbol(0).fillByte('1').mark(217);
    }

    /** "more bytes 255 may stand before it": before each MARK that there is. */
    private static void bytesBeforeMarks() {
        for (int many : new int[] {1, 2, 3, 40, 999}) {
            Rows row = new Rows().many(many, 255).mark(216).many(many, 255).table(0, 8).many(many, 255).starts(0).many(many, 255).rests(0)
                    .many(many, 255).frame(16, 8, 1, 17, 0).many(many, 255).interval(1).many(many, 255).mark(224).two(2).many(many, 255)
                    .scan(1, 0).start(5).restSymbol(0).fillByte('1').many(many, 255).mark(208).start(6).restSymbol(0).fillByte('1')
                    .many(many, 255).mark(217);
            CHECKS.same("the second block", right(many + " bytes 255 before MARKS", row).level(1, 0, 1, 0), 6);
        }
    }

    /** "Numbers of two bytes have the higher one first": a LENGTH of 256 and more, an INTERVAL of 256. */
    private static void numbersOfTwoBytes() {
        right("a LENGTH of 258", finish(head().mark(224).two(258).many(256, 0).table(0, 8).starts(0).rests(0)
                .frame(8, 8, 1, 17, 0).scan(1, 0)));
        right("a LENGTH of 513", finish(head().mark(224).two(513).many(511, 255).table(0, 8).starts(0).rests(0)
                .frame(8, 8, 1, 17, 0).scan(1, 0)));
        Rows row = head().table(0, 8).starts(0).rests(0).frame(16, 8, 1, 17, 0).interval(256).scan(1, 0).bits("0".repeat(24)).mark(217);
        right("an INTERVAL of 256, not 1", row);
    }

    /** "TABLES, one or more (with none FAULT 4)". */
    private static void howManyTables() {
        for (int many = 1; many <= 6; many++) {
            Rows row = head().mark(219).two(2 + 65 * many);
            for (int i = 0; i < many; i++) {
                row.add(i % 4).many(64, 8);
            }
            right(many + " tables", finish(row.starts(0).rests(0).frame(8, 8, 1, 17, 0).scan(1, 0)));
        }
        wrong("no table", 4, 4, head().mark(219).two(2).starts(0));
        wrong("no table, and the TAPE ends", 4, 4, head().mark(219).two(2));
        wrong("a table and a byte", 4, 4, head().mark(219).two(68).add(0).many(64, 8).add(1).mark(217));
        wrong("a table that lacks an entry", 4, 4, head().mark(219).two(66).add(0).many(63, 8).mark(217));
        wrong("two tables, one of which lacks an entry", 4, 4, head().mark(219).two(131).add(0).many(64, 8).add(1).many(64, 8));
    }

    /** "the number 0 .. 3 of one, and its 64 entries (1 .. 255), by THE ROW". */
    private static void entriesOfTables() {
        for (int table = 0; table < 4; table++) {
            for (int entry : new int[] {1, 2, 254, 255}) {
                Rows row = head().table(table, entry).starts(0).rests(0).frame(8, 8, 1, 17, table).scan(1, 0);
                int sample = right("entries " + entry, finish(row)).sample(0, 0, 0);
                CHECKS.same("the sample by entries " + entry, sample, Math.min(255, 128 + (5 * entry + 4) / 8));
            }
            wrong("entry 0", 5, 6 + 64, head().mark(219).two(67).add(table).many(63, 255).add(0));
        }
        wrong("table 4", 5, 6, head().table(4, 1));
    }

    /** "CODES, one or more (with none FAULT 4)"; "how many codes .. there are (also none at all)". */
    private static void howManyCodes() {
        Rows none = head().table(0, 8).mark(196).two(2 + 5 * 17);
        for (int kind : new int[] {0, 1, 16, 17, 16}) {
            none.add(kind).many(16, 0);
        }
        right("five codes without any", finish(none.starts(0).rests(0).frame(8, 8, 1, 17, 0).scan(1, 0)));
        wrong("no codes", 4, 4, head().mark(196).two(2).table(0, 8));
        wrong("no codes, and the TAPE ends", 4, 4, head().mark(196).two(2));
        wrong("a code and a byte", 4, 4, head().mark(196).two(20).add(0).many(16, 0).add(16).mark(217));
        wrong("fifteen bytes of 16", 4, 4, head().mark(196).two(18).add(0).many(15, 0).mark(217));
    }

    /** "codes of 1 .. 16 bits": one symbol, by a code of each length. */
    private static void codesOfEachLength() {
        for (int n = 1; n <= 16; n++) {
            Rows row = head().table(0, 8).mark(196).two(20).add(0).many(n - 1, 0).add(1).many(16 - n, 0).add(3)
                    .mark(196).two(20).add(16).many(n - 1, 0).add(1).many(16 - n, 0).add(0).frame(8, 8, 1, 17, 0).scan(1, 0);
            row.bits("0".repeat(n) + "101" + "0".repeat(n)).fillByte('1').mark(217);
            CHECKS.same("the level by " + n + " bits", right("codes of " + n + " bits", row).level(1, 0, 0, 0), 5);
        }
        // A code of each length: 0, 10, 110 and so on.
        for (int n = 1; n <= 11; n++) {
            Rows row = head().table(0, 8).mark(196).two(19 + 11).add(0).many(11, 1).many(5, 0).add(1, 2, 3, 4, 5, 6, 7, 8, 9, 10, 11)
                    .rests(0).frame(8, 8, 1, 17, 0).scan(1, 0).bits("1".repeat(n - 1) + "0" + "1".repeat(n)).restSymbol(0).fillByte('1').mark(217);
            CHECKS.same("the level of code " + n, right("code " + n + " of eleven", row).level(1, 0, 0, 0), (1 << n) - 1);
        }
        // "with bits 0 behind it where it is longer": 00, 01, then 1000 and 1001, then 1010000.
        String[] bits = {"00", "01", "1000", "1001", "1010000"};
        for (int i = 0; i < bits.length; i++) {
            Rows row = head().table(0, 8).mark(196).two(19 + 5).add(0, 0, 2, 0, 2, 0, 0, 1).many(9, 0).add(9, 8, 7, 6, 5)
                    .rests(0).frame(8, 8, 1, 17, 0).scan(1, 0).bits(bits[i] + "1".repeat(9 - i)).restSymbol(0).fillByte('1').mark(217);
            CHECKS.same("the level of code " + bits[i], right("code " + bits[i], row).level(1, 0, 0, 0), (1 << 9 - i) - 1);
        }
    }

    /** "No code may have bits 1 alone": of n bits 2^n - 1 are right, one more is not. */
    private static void noBitsOneAlone() {
        for (int n = 1; n <= 8; n++) {
            int most = (1 << n) - 1;
            Rows row = head().mark(196).two(19 + most).add(16).many(n - 1, 0).add(most).many(16 - n, 0).many(most, 0);
            wrong(most + " codes of " + n + " bits, which are right", 1, row.size(), row);
            if (n < 8) {
                row = head().mark(196).two(20 + most).add(16).many(n - 1, 0).add(most + 1).many(16 - n, 0).many(most + 1, 0);
                wrong(most + 1 + " codes of " + n + " bits", 5, 7, row);
            }
            row = head().mark(196).two(20 + most).add(16).many(n - 1, 0).add(most).many(15 - n, 0).add(1).many(most + 1, 0);
            wrong("one of 16 bits behind them, which is right", 1, row.size(), row);
            row = head().mark(196).two(21 + most).add(16).many(n - 1, 0).add(most, 1).many(14 - n, 0).add(1).many(most + 2, 0);
            // 255, 1 and 1 are more than 256.
            wrong("one of a bit more behind them and one of 16", n < 8 ? 1 : 5, n < 8 ? row.size() : 7, row);
            row = head().mark(196).two(21 + most).add(16).many(n - 1, 0).add(most, 2).many(15 - n, 0).many(most + 2, 0);
            wrong("two of a bit more behind them", 5, 7, row);
        }
        Rows row = head().mark(196).two(19 + 16).add(17).many(16, 1).many(16, 0);
        wrong("one of each length, which is right", 1, row.size(), row);
        for (int n = 1; n <= 16; n++) {
            row = head().mark(196).two(19 + 17).add(17).many(n - 1, 1).add(2).many(16 - n, 1).many(17, 0);
            wrong("one of each length, and another of " + n + " bits", 5, 7, row);
        }
    }

    /** "or there are more than 256". */
    private static void mostCodes() {
        int[] counts = {0, 0, 0, 0, 0, 0, 0, 100, 100, 56, 0, 0, 0, 0, 0, 0};
        Rows row = head().mark(196).two(19 + 256).add(16).add(counts).many(256, 0);
        wrong("256 codes, which are right", 1, row.size(), row);
        counts[15] = 1;
        wrong("257 codes", 5, 7, head().mark(196).two(19 + 257).add(16).add(counts).many(257, 0));
        counts[15] = 0;
        counts[9] = 57;
        wrong("257 codes of three lengths", 5, 7, head().mark(196).two(19 + 257).add(16).add(counts).many(257, 0));
        row = head().mark(196).two(19 + 255).add(0).many(15, 0).add(255).many(255, 11);
        wrong("255 codes of 16 bits for starts, which are right", 1, row.size(), row);
        wrong("257 codes for starts", 5, 7, head().mark(196).two(19 + 257).add(1).many(14, 0).add(2, 255).many(257, 0));
        // The last one of 256 codes, by its bits.
        row = head().table(0, 8).starts(0).mark(196).two(19 + 256).add(16).many(8, 0).add(1).many(6, 0).add(255).many(255, 3).add(0)
                .frame(8, 8, 1, 17, 0).scan(1, 0).start(5).bits(Rows.binary(128 + 254, 16)).fillByte('1').mark(217);
        CHECKS.same("a level behind 256 codes", right("256 codes", row).level(1, 0, 0, 0), 5);
    }

    /** "Symbols for STARTS are 0 .. 11; for rests 0, 240, or those whose lowest four bits are 1 .. 10"; all of them at once. */
    private static void symbolsOfCodes() {
        List<Integer> rests = Rows.restSymbols();
        CHECKS.same("how many symbols for rests there are", rests.size(), 162);
        for (int symbol = 0; symbol < 256; symbol++) {
            for (int kind = 0; kind < 32; kind += kind % 16 == 1 ? 15 : 1) {
                Rows row = head().mark(196).two(20).add(kind, 1).many(15, 0).add(symbol);
                boolean fits = kind < 16 ? symbol <= 11 : rests.contains(symbol);
                wrong("symbol " + symbol + " for " + kind, fits ? 1 : 5, fits ? row.size() : row.size() - 1, row);
            }
        }
        wrong("a wrong symbol behind right ones", 5, 6 + 17 + 12, head().mark(196).two(19 + 13).add(0).many(3, 0).add(13).many(12, 0)
                .add(0, 1, 2, 3, 4, 5, 6, 7, 8, 9, 10, 11, 12));
    }

    /** "height and width, two bytes each, 1 .. 64". */
    private static void sidesOfFrames() {
        for (int side = 0; side <= 66; side++) {
            boolean fits = side >= 1 && side <= 64;
            Rows row = head().frame(side, 1, 1, 17, 0);
            wrong("width " + side, fits ? 1 : 5, fits ? row.size() : 9, row);
            row = head().frame(64, side, 1, 17, 0);
            wrong("height " + side, fits ? 1 : 5, fits ? row.size() : 7, row);
        }
        wrong("height and width 0", 5, 7, head().frame(0, 0, 1, 17, 0));
        wrong("height 256 + 8", 5, 7, head().frame(8, 264, 1, 17, 0));
        wrong("width 256 + 8", 5, 9, head().frame(264, 8, 1, 17, 0));
        BlockPicture x = right("a picture of 3 by 7", told3by7());
        CHECKS.same("its width", x.about(0), 3);
        CHECKS.same("its height", x.about(1), 7);
    }

    private static Rows told3by7() {
        return finish(head().table(0, 8).starts(0).rests(0).frame(3, 7, 1, 17, 0).scan(1, 0));
    }

    /** "its NAME (a byte, all others than those before)". */
    private static void namesOfLayers() {
        int[][] names = {{0, 1, 2}, {255, 0, 128}, {2, 1, 0}, {0, 255, 254}};
        for (int[] n : names) {
            Rows row = head().table(0, 8).starts(0).rests(0).frame(8, 8, n[0], 17, 0, n[1], 17, 0, n[2], 17, 0)
                    .scan(n[0], 0, n[1], 0, n[2], 0).start(1).restSymbol(0).start(2).restSymbol(0).start(3).restSymbol(0).fillByte('1').mark(217);
            BlockPicture x = right("NAMES " + Arrays.toString(n), row);
            for (int layer = 0; layer < 3; layer++) {
                CHECKS.same("the level of layer " + layer, x.level(1, layer, 0, 0), layer + 1);
            }
        }
        wrong("the second NAME is the first", 5, 15, head().frame(8, 8, 0, 17, 0, 0, 17, 0, 1, 17, 0));
        wrong("the third NAME is the first", 5, 18, head().frame(8, 8, 255, 17, 0, 0, 17, 0, 255, 17, 0));
        wrong("the third NAME is the second", 5, 18, head().frame(8, 8, 5, 17, 0, 6, 17, 0, 6, 17, 0));
    }

    /** "a byte 16 a + d", both 1 or 2. */
    private static void factorsOfLayers() {
        for (int factors = 0; factors < 256; factors++) {
            int a = factors / 16;
            int d = factors % 16;
            boolean fits = (a == 1 || a == 2) && (d == 1 || d == 2);
            Rows row = head().frame(8, 8, 1, factors, 3);
            wrong("factors " + factors, fits ? 1 : 5, fits ? row.size() : 13, row);
        }
    }

    private static void tablesOfLayers() {
        for (int table = 0; table < 256; table++) {
            Rows row = head().frame(8, 8, 1, 17, table);
            wrong("a layer's table " + table, table < 4 ? 1 : 5, table < 4 ? row.size() : 14, row);
        }
    }

    /** "MARK 221, the INTERVAL, two bytes (at first it is 0: none)". */
    private static void intervals() {
        for (int interval : new int[] {0, 2, 3, 255, 256, 65535}) {
            Rows row = head().table(0, 8).starts(0).rests(0).frame(16, 8, 1, 17, 0).interval(interval).scan(1, 0).start(5).restSymbol(0)
                    .start(1).restSymbol(0).fillByte('1').mark(217);
            CHECKS.same("the second block by INTERVAL " + interval, right("INTERVAL " + interval, row).level(1, 0, 1, 0), 6);
        }
        for (int length = 0; length < 8; length++) {
            Rows row = head().mark(221).two(length).two(7);
            wrong("an INTERVAL of LENGTH " + length, length == 4 ? 1 : 4, length == 4 ? row.size() : 4, row);
        }
    }

    /** "MARKS 224 .. 239, 254: anything": also MARKS, and nothing at all. */
    private static void anything() {
        for (int m = 222; m < 255; m++) {
            boolean fits = m >= 224 && m <= 239 || m == 254;
            Rows row = head().mark(m).two(2).mark(m).two(8).mark(217).mark(216).mark(0);
            wrong("MARK " + m, fits ? 1 : 3, fits ? row.size() : 3, row);
            if (fits) {
                right("MARK " + m, finish(told().mark(m).two(6).mark(217).mark(208).scan(1, 0)));
                wrong("MARK " + m + " of LENGTH 1", 4, 4, head().mark(m).two(1).mark(217));
                wrong("MARK " + m + " of LENGTH 0", 4, 4, head().mark(m).two(0).mark(217));
            }
        }
        Rows row = told().scan(1, 0).start(5).restSymbol(0).fillByte('1').mark(254).two(2).mark(239).two(3).add(9).mark(217);
        right("anything behind DATA", row);
        row = head().mark(230).two(65535).many(65535 - 2 - 40000, 1);
        wrong("a section that goes far beyond the TAPE", 1, row.size(), row);
    }

    /** "a byte 16 s + r, the numbers 0 or 1 of its codes for starts and rests". */
    private static void codesOfScans() {
        for (int both = 0; both < 256; both++) {
            boolean fits = both / 16 < 2 && both % 16 < 2;
            Rows row = head().table(0, 8).starts(0).starts(1).rests(0).rests(1).frame(8, 8, 1, 17, 0);
            int at = row.size() + 6;
            finish(row.scan(1, both));
            if (fits) {
                right("codes " + both, row);
            } else {
                wrong("codes " + both, 5, at, row);
            }
        }
        // Starts 0 and 1, rests 0 and 1 are four different codes: levels 1, 2 and k 1, 2.
        for (int both : new int[] {0, 1, 16, 17}) {
            Rows row = head().table(0, 8).mark(196).two(2 + 2 * 18 + 2 * 19).add(0, 1).many(15, 0).add(1).add(1, 1).many(15, 0).add(2)
                    .add(16, 1, 1).many(14, 0).add(1, 0).add(17, 1, 1).many(14, 0).add(17, 0).frame(8, 8, 1, 17, 0).scan(1, both);
            row.bits("0" + "1".repeat(1 + both / 16) + "0" + "1" + "10").fillByte('1').mark(217);
            BlockPicture x = right("each code for itself", row);
            CHECKS.same("the start by " + both, x.level(1, 0, 0, 0), both / 16 == 0 ? 1 : 3);
            CHECKS.same("the rest by " + both, x.level(1, 0, 0, 1 + both % 16), 1);
        }
    }

    /** "0, 63, 0": no other number in any of the three places. */
    private static void endsOfScans() {
        int at = told().size() + 7;
        for (int value = 0; value < 256; value++) {
            int[] due = {0, 63, 0};
            for (int i = 0; i < 3; i++) {
                int[] three = due.clone();
                three[i] = value;
                Rows row = finish(told().mark(218).two(8).add(1, 1, 0).add(three));
                if (value == due[i]) {
                    right("0, 63, 0", row);
                } else {
                    wrong("another number than 0, 63, 0", 5, at + i, row);
                }
            }
        }
    }

    /** "how many layers, 1 .. as many as the frame has; .. (in the frame's order, none that was in a scan)". */
    private static void layersOfScans() {
        int[][][] ways = {{{1, 2, 3}}, {{1, 2}, {3}}, {{1, 3}, {2}}, {{2, 3}, {1}}, {{3}, {1, 2}}, {{2}, {1, 3}}, {{1}, {2, 3}},
            {{1}, {2}, {3}}, {{1}, {3}, {2}}, {{2}, {1}, {3}}, {{2}, {3}, {1}}, {{3}, {1}, {2}}, {{3}, {2}, {1}}};
        for (int[][] way : ways) {
            Rows row = head().table(0, 8).starts(0).rests(0).frame(8, 8, 1, 17, 0, 2, 17, 0, 3, 17, 0);
            for (int[] names : way) {
                int[] pairs = new int[2 * names.length];
                for (int i = 0; i < names.length; i++) {
                    pairs[2 * i] = names[i];
                }
                row.scan(pairs);
                for (int name : names) {
                    row.start(10 * name).restSymbol(0);
                }
                row.fillByte('1');
            }
            BlockPicture x = right("scans " + Arrays.deepToString(way), row.mark(217));
            for (int layer = 0; layer < 3; layer++) {
                CHECKS.same("layer " + layer, x.level(1, layer, 0, 0), 10 * (layer + 1));
            }
        }
    }

    /** "The frame comes once, before scans; a scan's codes, and the tables of its layers, must have been told" by then, in any order. */
    private static void orderOfSections() {
        right("the frame first", finish(head().frame(8, 8, 1, 17, 0).rests(0).starts(0).interval(0).table(0, 8).scan(1, 0)));
        right("the frame last", finish(head().interval(3).table(0, 8).rests(0).starts(0).frame(8, 8, 1, 17, 0).scan(1, 0)));
        Rows row = head().frame(8, 8, 1, 17, 0, 2, 17, 1, 3, 17, 2).table(0, 8).starts(0).rests(0).scan(1, 0).start(1).restSymbol(0).fillByte('1')
                .table(1, 8).rests(1).scan(2, 1).start(2).restSymbol(0).fillByte('1').table(2, 8).starts(1).scan(3, 17).start(3).restSymbol(0)
                .fillByte('1').starts(0).table(3, 1).interval(9).mark(217);
        CHECKS.same("what a scan needs is told between scans", right("sections between scans", row).level(1, 2, 0, 0), 3);
        row = told();
        wrong("a second frame before the scan", 3, row.size() + 1, row.frame(8, 8, 1, 17, 0));
        row = told().scan(1, 0).start(5).restSymbol(0).fillByte('1');
        wrong("a second frame behind the scan", 3, row.size() + 1, row.frame(8, 8, 1, 17, 0));
        row = head();
        wrong("a scan first", 3, row.size() + 1, row.scan(1, 0));
        row = head();
        wrong("MARK 217 first", 3, row.size() + 1, row.mark(217));
        row = told();
        wrong("MARK 217 without a scan", 3, row.size() + 1, row.mark(217));
        row = told().scan(1, 0).start(5).restSymbol(0).fillByte('1');
        wrong("MARK 216 again", 3, row.size() + 1, row.mark(216));
    }

    /** "A table or code told again is another one from then on": within one section, and none of it stays. */
    private static void toldAgain() {
        Rows row = head().mark(219).two(132).add(0).many(64, 77).add(0).many(64, 8).starts(0).rests(0).frame(8, 8, 1, 17, 0).scan(1, 0);
        CHECKS.same("the later table of one section", right("a table twice in a section", finish(row)).sample(0, 0, 0), 133);
        row = head().table(0, 8).mark(196).two(2 + 2 * 18).add(0, 1).many(15, 0).add(1).add(0, 1).many(15, 0).add(3).rests(0)
                .frame(8, 8, 1, 17, 0).scan(1, 0).bits("0" + "101").restSymbol(0).fillByte('1').mark(217);
        CHECKS.same("the later code of one section", right("a code twice in a section", row).level(1, 0, 0, 0), 5);
        row = head().table(0, 8).starts(0).rests(0).mark(196).two(20).add(0).many(2, 0).add(1).many(13, 0).add(3).frame(8, 8, 1, 17, 0).scan(1, 0);
        int at = row.size();
        wrong("a code of the one told before", 7, at, row.bits("0010" + "0".repeat(12)));
        row = head().table(0, 8).starts(0).rests(0).mark(196).two(19).add(0).many(16, 0).frame(8, 8, 1, 17, 0).scan(1, 0);
        at = row.size();
        wrong("codes told again without any", 7, at, row.bits("0".repeat(16)));
    }

    /** "If there are several, their a * d together are at most 10", and one layer may have 4 of its own. */
    private static void blocksTogether() {
        int[] all = {0x11, 0x12, 0x21, 0x22};
        for (int i = 0; i < 64; i++) {
            int[] factors = {all[i % 4], all[i / 4 % 4], all[i / 16]};
            int sum = 0;
            for (int f : factors) {
                sum += (f >> 4) * (f & 15);
            }
            Rows row = head().table(0, 8).starts(0).rests(0).frame(8, 8, 1, factors[0], 0, 2, factors[1], 0, 3, factors[2], 0);
            int at = row.size() + 4;
            row.scan(1, 0, 2, 0, 3, 0);
            wrong(sum + " blocks", sum <= 10 ? 1 : 6, sum <= 10 ? row.size() : at, row);
        }
    }
}
