import java.util.Arrays;

/** Promises 15 and 16: every FAULT, at its byte, and which one comes first. */
public final class FaultTest {
    private static final Checks CHECKS = new Checks("FaultTest");

    public static void main(String[] args) {
        cutRows();
        noMarks();
        marksThatCannotCome();
        marksOfIntervals();
        lengthsOfTables();
        lengthsOfCodes();
        lengthsOfOthers();
        wrongTables();
        wrongCodes();
        wrongFrames();
        wrongScans();
        whatWasNotTold();
        tooManyBlocks();
        symbolsWithoutCodes();
        firstLevels();
        levelsBeyond();
        marksInData();
        bytesBehind();
        halvesOfNumbers();
        marksAtTheEnd();
        firstOfTwoInFrames();
        firstOfTwoInScans();
        firstOfTwoInParts();
        firstOfTwoInData();
        firstOfTwoAtTheEnd();
        CHECKS.finish();
    }

    /** Behind row.size() as a place stands what the row gets more: Java reckons it before that. */
    private static void fault(String what, int fault, int place, Rows row) {
        fault(what, fault, place, row.row());
    }

    private static void fault(String what, int fault, int place, int... row) {
        BlockPicture x = new BlockPicture();
        Rows.type(x, row);
        CHECKS.same("unpack() of " + what, x.unpack(), fault);
        CHECKS.same("place() of " + what, x.place(), place);
        CHECKS.fails("about(0) behind " + what, IllegalStateException.class, () -> x.about(0));
    }

    /** Up to the frame of 16 by 8 samples in one layer: all is told that its scan needs. */
    private static Rows told() {
        return new Rows().mark(216).table(0, 1).starts(0).rests(0).frame(16, 8, 7, 17, 0);
    }

    private static Rows three(int... factors) {
        return new Rows().mark(216).table(0, 1).starts(0).rests(0)
                .frame(16, 16, 1, factors[0], 0, 2, factors[1], 0, 3, factors[2], 0);
    }

    private static Rows head() {
        return new Rows().mark(216);
    }

    /** Where a row that is right ends too early it fails at its end. */
    private static void cutRows() {
        BlockPicture x = new BlockPicture();
        Rows right = new Rows().add(255, 255).mark(216).mark(254).two(5).add(1, 2, 3).table(0, 1).starts(0).rests(0).interval(1)
                .frame(16, 8, 7, 17, 0).scan(7, 0).start(2047).restSymbol(0).fillByte('1').add(255).mark(208)
                .start(2047).rest(2, 1023).restSymbol(0).fillByte('1').add(255).mark(217);
        right.type(x);
        CHECKS.same("unpack() of the row that is not cut", x.unpack(), 0);
        CHECKS.isTrue("a byte 255 stands in its DATA", Arrays.toString(right.row()).contains("255, 0, "));
        for (int n = 0; n < right.size(); n++) {
            fault("the row cut behind " + n, 1, n, Arrays.copyOf(right.row(), n));
        }
    }

    private static void noMarks() {
        fault("a first byte 0", 2, 0, 0, 216, 255, 217);
        fault("a first byte 254", 2, 0, 254);
        fault("a byte behind MARK 216", 2, 2, 255, 216, 0, 255, 217);
        Rows row = head().table(0, 1);
        fault("a byte behind a section", 2, row.size(), row.add(219, 255, 217));
        row = head().interval(3);
        fault("a byte behind the INTERVAL", 2, row.size(), row.add(0));
        row = head().mark(230).two(2);
        fault("a byte behind anything", 2, row.size(), row.add(1));
        row = told().scan(7, 0).block(0, new int[64]).block(0, new int[64]).fillByte('1');
        fault("a byte behind DATA", 2, row.size(), row.add(1).mark(217));
        row = told().interval(1).scan(7, 0).block(0, new int[64]).fillByte('1');
        fault("a byte where MARK 208 is due", 2, row.size(), row.add(0).mark(208));
    }

    private static void marksThatCannotCome() {
        for (int m = 0; m < 255; m++) {
            if (m != 216) {
                fault("a first MARK " + m, 3, 1, 255, m, 0, 2);
                fault("a first MARK " + m + " behind bytes 255", 3, 3, 255, 255, 255, m);
            }
            boolean named = m == 192 || m == 196 || m == 219 || m == 221 || m >= 224 && m <= 239 || m == 254;
            if (!named) {
                fault("a second MARK " + m, 3, 3, 255, 216, 255, m, 0, 2);
                fault("a second MARK " + m + " behind bytes 255", 3, 5, 255, 216, 255, 255, 255, m);
            }
        }
        Rows row = told();
        fault("a second frame", 3, row.size() + 1, row.frame(16, 8, 7, 17, 0));
        row = told();
        fault("a MARK 217 before a scan", 3, row.size() + 1, row.mark(217));
        row = head().table(0, 1).starts(0).rests(0);
        fault("a scan before the frame", 3, row.size() + 1, row.scan(7, 0));
        row = three(17, 17, 17).scan(1, 0).bits(Rows.binary(0, 48)).scan(3, 0).bits(Rows.binary(0, 48));
        fault("a MARK 217 when one layer is missing", 3, row.size() + 2, row.add(255).mark(217));
        row = told().scan(7, 0).bits(Rows.binary(0, 24));
        fault("a MARK 208 behind DATA", 3, row.size() + 1, row.mark(208));
        row = told().scan(7, 0).bits(Rows.binary(0, 24));
        fault("a second MARK 216 behind DATA", 3, row.size() + 1, row.mark(216));
        row = told().scan(7, 0).bits(Rows.binary(0, 24));
        fault("255 and 0 behind DATA", 3, row.size() + 1, row.mark(0));
    }

    private static void marksOfIntervals() {
        for (int m : new int[] {0, 207, 209, 215, 216, 217, 218, 224, 254}) {
            Rows row = told().interval(1).scan(7, 0).bits(Rows.binary(0, 12)).fillByte('0');
            fault("a MARK " + m + " where 208 is due", 3, row.size() + 1, row.mark(m));
        }
        Rows row = told().interval(1).scan(7, 0).bits(Rows.binary(0, 12)).fillByte('1').mark(208).bits(Rows.binary(0, 12)).fillByte('1');
        fault("a MARK 209 behind the last unit", 3, row.size() + 1, row.mark(209));
        row = told().interval(2).scan(7, 0).bits(Rows.binary(0, 24));
        fault("a MARK 208 behind the last unit", 3, row.size() + 1, row.mark(208));
        row = new Rows().mark(216).table(0, 1).starts(0).rests(0).frame(64, 16, 7, 17, 0).interval(1).scan(7, 0);
        for (int i = 0; i < 15; i++) {
            row.bits(Rows.binary(0, 12)).fillByte('1').mark(208 + i % 8);
        }
        Rows right = row.bits(Rows.binary(0, 12)).fillByte('1').mark(217);
        BlockPicture x = new BlockPicture();
        right.type(x);
        CHECKS.same("unpack() of MARKS 208 .. 215 and 208 again", x.unpack(), 0);
        row = three(17, 17, 17).interval(3).scan(1, 0).bits(Rows.binary(0, 36)).fillByte('1').mark(208).bits(Rows.binary(0, 12)).fillByte('1')
                .scan(2, 0).bits(Rows.binary(0, 36)).fillByte('1');
        fault("a MARK 209 as the first one of a second scan", 3, row.size() + 1, row.mark(209));
    }

    private static void lengthsOfTables() {
        for (int length : new int[] {0, 1, 2}) {
            fault("TABLES of length " + length, 4, 4, head().mark(219).two(length).add(0).many(64, 1));
            fault("TABLES of length " + length + " at the end", 4, 4, head().mark(219).two(length));
        }
        for (int length : new int[] {3, 4, 40, 66}) {
            fault("TABLES of length " + length, 4, 4, head().mark(219).two(length).add(0).many(64, 1));
            fault("TABLES of length " + length + " at the end", 4, 4, head().mark(219).two(length).add(0).many(length - 3, 1));
        }
        fault("a table too many", 4, 4, head().mark(219).two(68).add(0).many(64, 1).add(3, 1));
        fault("a MARK within TABLES", 5, 71, head().mark(219).two(68).add(0).many(64, 1).mark(217));
        fault("a wrong number before the length", 5, 6, head().mark(219).two(3).add(4));
        fault("a wrong entry before the length", 5, 7, head().mark(219).two(4).add(3, 0));
        fault("a great length", 1, 10, head().mark(219).two(65535).add(0, 1, 1, 1));
    }

    private static void lengthsOfCodes() {
        for (int length : new int[] {0, 1, 2, 3, 10, 18}) {
            fault("CODES of length " + length, 4, 4, head().mark(196).two(length).add(0, 1).many(15, 0).add(0));
        }
        fault("CODES without room for a symbol", 4, 4, head().mark(196).two(19).add(0, 1).many(15, 0).add(0));
        fault("CODES with room for one symbol of two", 4, 4, head().mark(196).two(20).add(0, 1, 1).many(14, 0).add(0, 0));
        fault("the same at the end of the TAPE", 4, 4, head().mark(196).two(20).add(0, 1, 1).many(14, 0).add(0));
        fault("a symbol before the length", 5, 23, head().mark(196).two(20).add(0, 1, 1).many(14, 0).add(12));
        fault("codes too many before the length", 5, 7, head().mark(196).two(19).add(0, 2).many(15, 0).add(0));
        fault("the length before codes too many", 4, 4, head().mark(196).two(18).add(0, 2).many(15, 0).add(0));
        fault("the TAPE's end before codes too many", 1, 22, head().mark(196).two(40).add(0, 2).many(14, 0));
        fault("a second code begins", 4, 4, head().mark(196).two(21).add(0, 1).many(15, 0).add(5, 17, 0));
    }

    private static void lengthsOfOthers() {
        for (int length : new int[] {0, 1, 2, 3, 5, 260, 65535}) {
            fault("an INTERVAL of length " + length, 4, 4, head().mark(221).two(length));
        }
        fault("anything of length 0", 4, 4, head().mark(224).two(0).mark(217));
        fault("anything of length 1", 4, 4, head().mark(239).two(1).mark(217));
        fault("MARK 254 of length 1", 4, 4, head().mark(254).two(1).mark(217));
        fault("anything beyond the TAPE", 1, 9, head().mark(225).two(6).add(1, 2, 3));
        fault("half of a length", 1, 5, head().mark(224).add(0));
        fault("a MARK behind bytes 255", 4, 7, head().add(255, 255, 255, 255, 239, 0, 1));
        for (int length : new int[] {0, 1, 2, 8, 10, 12, 17, 65535}) {
            fault("a frame of length " + length, 4, 4, head().mark(192).two(length).add(8, 0, 8, 0, 8, 1, 1, 17, 0));
            fault("a frame of length " + length + ", another byte than 8", 5, 6, head().mark(192).two(length).add(9, 0, 8));
            fault("a frame of length " + length + " without height", 5, 7, head().mark(192).two(length).add(8, 0, 0));
            fault("a frame of length " + length + " without width", 5, 9, head().mark(192).two(length).add(8, 0, 1, 1, 0));
            fault("a frame of length " + length + ", two layers", 5, 11, head().mark(192).two(length).add(8, 0, 1, 0, 1, 2));
            fault("a frame of length " + length + ", cut", 1, 11, head().mark(192).two(length).add(8, 0, 1, 0, 1));
            int at = told().size() + 2;
            fault("a scan of length " + length, 4, at, told().mark(218).two(length == 8 ? 9 : length).add(1, 7, 0, 0, 63, 0));
            fault("a scan of length " + length + " and no layer", 5, at + 2, told().mark(218).two(length).add(0));
            fault("a scan of length " + length + ", cut", 1, at + 2, told().mark(218).two(length));
        }
        fault("a frame of three layers with the length of one", 4, 4, head().mark(192).two(11).add(8, 0, 1, 0, 1, 3));
        fault("a frame of one layer with the length of three", 4, 4, head().mark(192).two(17).add(8, 0, 1, 0, 1, 1));
    }

    private static void wrongTables() {
        for (int number : new int[] {4, 16, 17, 255}) {
            fault("table " + number, 5, 6, head().table(number, 1));
        }
        for (int k = 0; k < 64; k++) {
            fault("entry 0 at " + k, 5, 7 + k, head().mark(219).two(67).add(3).many(k, 255).add(0).many(63 - k, 1));
        }
    }

    private static void wrongCodes() {
        for (int kind : new int[] {2, 3, 15, 18, 31, 32, 33, 128, 255}) {
            fault("codes " + kind, 5, 6, head().mark(196).two(20).add(kind, 1).many(15, 0).add(0));
        }
        fault("two codes of 1 bit", 5, 7, head().mark(196).two(21).add(0, 2).many(15, 0).add(0, 0));
        fault("three and one codes", 5, 7, head().mark(196).two(23).add(0, 1, 1, 2).many(13, 0).add(0, 0, 0, 0));
        fault("a code of bits 1 alone", 5, 7, head().mark(196).two(35).add(1).many(3, 0).add(16).many(12, 0).many(16, 0));
        fault("sixteen lengths, and one too many", 5, 7, head().mark(196).two(36).add(1).many(15, 1).add(2).many(17, 0));
        fault("257 codes", 5, 7, head().mark(196).two(19 + 257).add(16).many(8, 0).add(250).many(6, 0).add(7).many(257, 0));
        fault("4080 codes", 5, 7, head().mark(196).two(65000).add(17).many(16, 255));
        for (int symbol : new int[] {12, 13, 16, 17, 240, 255}) {
            fault("symbol " + symbol + " for starts", 5, 24, head().mark(196).two(21).add(1, 1, 1).many(14, 0).add(11, symbol));
        }
        for (int symbol = 0; symbol < 256; symbol++) {
            if (!Rows.restSymbols().contains(symbol)) {
                fault("symbol " + symbol + " for rests", 5, 24, head().mark(196).two(21).add(16, 1, 1).many(14, 0).add(10, symbol));
            }
        }
        Rows right = head().mark(196).two(19 + 256).add(16).many(8, 0).add(250).many(6, 0).add(6).many(256, 0);
        fault("256 codes, which are right", 1, right.size(), right);
        right = head().mark(196).two(19 + 16).add(0).many(16, 1).many(16, 0);
        fault("a code of each length, which is right", 1, right.size(), right);
        right = head().mark(196).two(19).add(0).many(16, 0);
        fault("no code at all, which is right", 1, right.size(), right);
    }

    private static void wrongFrames() {
        for (int other : new int[] {0, 7, 9, 255}) {
            fault("a frame with " + other, 5, 6, head().mark(192).two(11).add(other, 0, 8, 0, 8, 1, 1, 17, 0));
        }
        for (int side : new int[] {0, 65, 256, 257, 65535, 16384}) {
            fault("height " + side, 5, 7, head().mark(192).two(11).add(8).two(side).two(8).add(1, 1, 17, 0));
            fault("width " + side, 5, 9, head().mark(192).two(11).add(8).two(64).two(side).add(1, 1, 17, 0));
            fault("height " + side + ", cut within", 1, 8, head().mark(192).two(11).add(8, side >> 8));
        }
        for (int layers : new int[] {0, 2, 4, 255}) {
            fault(layers + " layers", 5, 11, head().mark(192).two(8 + 3 * layers).add(8, 0, 8, 0, 8, layers));
        }
        for (int factors : new int[] {0, 1, 2, 16, 32, 19, 35, 49, 50, 0x44, 255}) {
            fault("factors " + factors, 5, 13, head().frame(8, 8, 1, factors, 0));
            fault("factors " + factors + " of the last layer", 5, 19, head().frame(8, 8, 1, 17, 0, 2, 17, 0, 3, factors, 0));
        }
        for (int table : new int[] {4, 16, 255}) {
            fault("a layer's table " + table, 5, 14, head().frame(8, 8, 1, 17, table));
        }
        fault("the same NAME twice", 5, 15, head().frame(8, 8, 0, 17, 0, 0, 17, 0, 3, 17, 0));
        fault("the same NAME again", 5, 18, head().frame(8, 8, 9, 17, 0, 8, 17, 0, 9, 17, 0));
        fault("the same NAME again", 5, 18, head().frame(8, 8, 7, 17, 0, 9, 17, 0, 9, 17, 0));
    }

    private static void wrongScans() {
        int at = told().size() + 4;
        for (int layers : new int[] {0, 2, 3, 255}) {
            fault("a scan of " + layers + " layers", 5, at, told().mark(218).two(8).add(layers, 7, 0, 0, 63, 0));
        }
        fault("a NAME that is not in the frame", 5, at + 1, told().scan(8, 0));
        for (int codes : new int[] {2, 15, 18, 31, 32, 33, 34, 48, 255}) {
            fault("codes " + codes + " in a scan", 5, at + 2, told().scan(7, codes));
        }
        fault("1, 63, 0", 5, at + 3, told().mark(218).two(8).add(1, 7, 0, 1, 63, 0));
        fault("0, 62, 0", 5, at + 4, told().mark(218).two(8).add(1, 7, 0, 0, 62, 0));
        fault("0, 63, 16", 5, at + 5, told().mark(218).two(8).add(1, 7, 0, 0, 63, 16));
        int next = three(17, 17, 17).size() + 4;
        fault("four layers", 5, next, three(17, 17, 17).mark(218).two(14).add(4));
        fault("NAMES in another order", 5, next + 3, three(17, 17, 17).scan(2, 0, 1, 0));
        fault("NAMES in another order", 5, next + 5, three(17, 17, 17).scan(1, 0, 3, 0, 2, 0));
        fault("the same NAME twice in a scan", 5, next + 3, three(17, 17, 17).scan(2, 0, 2, 0));
        Rows row = three(17, 17, 17).scan(2, 0).bits(Rows.binary(0, 48));
        fault("a NAME that was in a scan", 5, row.size() + 5, row.scan(2, 0));
        row = three(17, 17, 17).scan(2, 0).bits(Rows.binary(0, 48));
        fault("a NAME that was in a scan, behind another", 5, row.size() + 7, row.scan(1, 0, 2, 0));
        row = told().scan(7, 0).bits(Rows.binary(0, 24));
        fault("a scan when all were in one", 5, row.size() + 5, row.scan(7, 0));
    }

    private static void whatWasNotTold() {
        Rows row = head().table(1, 1).starts(0).rests(0).frame(8, 8, 7, 17, 0);
        int at = row.size() + 5;
        fault("a layer without its table", 6, at, row.scan(7, 0));
        fault("a layer without its table, at the end", 6, at, Arrays.copyOf(row.row(), at + 1));
        row = head().table(1, 1).frame(8, 8, 7, 17, 0);
        fault("no table, no codes, wrong codes", 6, row.size() + 5, row.scan(7, 99));
        row = head().table(0, 1).starts(1).rests(0).frame(8, 8, 7, 17, 0);
        fault("a layer without its starts", 6, row.size() + 6, row.scan(7, 0));
        row = head().table(0, 1).starts(0).rests(1).frame(8, 8, 7, 17, 0);
        fault("a layer without its rests", 6, row.size() + 6, row.scan(7, 0));
        row = head().table(0, 1).starts(0).rests(1).frame(8, 8, 7, 17, 0);
        fault("a layer without its starts 1", 6, row.size() + 6, row.scan(7, 17));
        row = head().table(0, 1).starts(0).rests(1).frame(8, 8, 7, 17, 0);
        fault("0 and 1 were told", 5, row.size() + 7, row.mark(218).two(8).add(1, 7, 1, 9, 63, 0));
        row = head().starts(0).rests(0).table(2, 1).frame(8, 8, 1, 17, 2, 2, 17, 3, 3, 17, 2);
        fault("the second layer without its table", 6, row.size() + 7, row.scan(1, 0, 2, 0, 3, 0));
        BlockPicture x = new BlockPicture();
        told().scan(7, 0).bits(Rows.binary(0, 24)).mark(217).type(x);
        CHECKS.same("unpack() of a row that tells all", x.unpack(), 0);
        row = head().frame(16, 8, 7, 17, 0);
        at = row.size() + 5;
        row.scan(7, 0).type(x);
        CHECKS.same("a table of the row before does not count", x.unpack(), 6);
        CHECKS.same("its place", x.place(), at);
        row = head().table(0, 1).frame(16, 8, 7, 17, 0);
        at = row.size() + 6;
        row.scan(7, 0).type(x);
        CHECKS.same("codes of the row before do not count", x.unpack(), 6);
        CHECKS.same("its place", x.place(), at);
        told().interval(1).scan(7, 0).bits(Rows.binary(0, 24)).mark(217).type(x);
        x.unpack();
        told().scan(7, 0).bits(Rows.binary(0, 24)).mark(217).type(x);
        CHECKS.same("an INTERVAL of the row before does not count", x.unpack(), 0);
    }

    private static void tooManyBlocks() {
        int at = three(34, 34, 34).size() + 4;
        fault("12 blocks", 6, at, three(34, 34, 34).scan(1, 0, 2, 0, 3, 0));
        fault("12 blocks, but 0, 63, 1 before", 5, at + 9, three(34, 34, 34).mark(218).two(12).add(3, 1, 0, 2, 0, 3, 0, 0, 63, 1));
        fault("12 blocks, cut", 1, at + 9, three(34, 34, 34).mark(218).two(12).add(3, 1, 0, 2, 0, 3, 0, 0, 63));
        Rows row = three(34, 33, 34).scan(1, 0, 2, 0, 3, 0);
        fault("10 blocks, which are right", 1, row.size(), row);
        row = three(34, 34, 34).scan(1, 0, 3, 0);
        fault("8 blocks, which are right", 1, row.size(), row);
    }

    private static void symbolsWithoutCodes() {
        Rows row = told().scan(7, 0);
        fault("a start without a code", 7, row.size(), row.bits("1100" + Rows.binary(0, 12)));
        row = told().scan(7, 0);
        fault("16 bits 1", 7, row.size(), row.add(255, 0, 255, 0));
        row = told().scan(7, 0);
        fault("16 bits are not there", 1, row.size() + 1, row.bits("11000000"));
        row = told().scan(7, 0);
        fault("a MARK before 16 bits", 7, row.size() + 1, row.bits("11000000").mark(217));
        row = told().scan(7, 0).start(1);
        fault("a rest without a code", 7, row.size(), row.bits("111" + "11110000" + "11110000"));
        row = told().scan(7, 0).bits("0100" + "1111");
        fault("a rest without a code, from a byte's first bit on", 7, row.size(), row.bits("11110000" + "11110000"));
        row = head().table(0, 1).mark(196).two(19).add(0).many(16, 0).rests(0).frame(8, 8, 7, 17, 0).scan(7, 0);
        fault("a start by no code at all", 7, row.size(), row.add(0, 0));
        row = head().table(0, 1).mark(196).two(20).add(0).many(15, 0).add(1, 0).rests(0).frame(8, 8, 7, 17, 0).scan(7, 0);
        fault("bits 1 behind fifteen bits 0", 7, row.size(), row.add(0, 1));
        row = head().table(0, 1).mark(196).two(20).add(0).many(15, 0).add(1, 0).rests(0).frame(8, 8, 7, 17, 0).scan(7, 0);
        fault("a code of 16 bits, which is right", 1, row.size() + 2, row.add(0, 0));
    }

    private static void firstLevels() {
        Rows row = told().scan(7, 0).start(2047).restSymbol(0);
        fault("a first level 2048", 7, row.size(), row.start(1).restSymbol(0).fillByte('1').mark(217));
        row = told().scan(7, 0).start(-2047).restSymbol(0);
        fault("a first level -2048", 7, row.size(), row.start(-1).restSymbol(0).fillByte('1').mark(217));
        row = told().scan(7, 0).start(-2047).restSymbol(0);
        fault("a first level -2048 of which a bit is missing", 1, row.size() + 1, row.bits("00010"));
        row = told().scan(7, 0).start(2047).restSymbol(0);
        fault("a first level 4094", 7, row.size(), row.start(2047).fillByte('1'));
        row = told().scan(7, 0).start(2047).restSymbol(0);
        int at = row.size();
        fault("a first level whose last bit is not there", 1, at + 2, row.bits("1011" + "1011111111").bits("0"));
        BlockPicture x = new BlockPicture();
        told().scan(7, 0).start(2047).restSymbol(0).start(-2047).restSymbol(0).fillByte('1').mark(217).type(x);
        CHECKS.same("first levels 2047 and 0", x.unpack(), 0);
        CHECKS.same("the first one", x.level(1, 0, 0, 0), 2047);
        told().interval(1).scan(7, 0).start(2047).restSymbol(0).fillByte('1').mark(208).start(-2047).restSymbol(0).fillByte('1').mark(217).type(x);
        CHECKS.same("first levels 2047 and -2047", x.unpack(), 0);
        CHECKS.same("the second one", x.level(1, 0, 1, 0), -2047);
    }

    /** A row whose next symbol for rests comes when k is this. */
    private static Rows upTo(int k) {
        Rows row = told().scan(7, 0).start(0);
        int left = k - 1;
        for (; left > 16; left -= 16) {
            row.restSymbol(240);
        }
        return row.rest(left - 1, 1);
    }

    private static void levelsBeyond() {
        int[][] beyond = {{49, 15, 1}, {50, 14, 1}, {63, 1, 5}, {63, 15, 10}};
        for (int[] b : beyond) {
            Rows row = upTo(b[0]);
            fault("level " + (b[0] + b[1]), 7, row.size(), row.restSymbol(16 * b[1] + b[2]).fillByte('1').mark(217));
        }
        for (int k : new int[] {49, 50, 63}) {
            Rows row = upTo(k);
            fault("240 at " + k, 7, row.size(), row.restSymbol(240).fillByte('1').mark(217));
        }
        Rows row = upTo(48).restSymbol(240);
        fault("240 at 48, which is right", 1, row.fillByte('1').size(), row);
        row = upTo(49).rest(14, 1);
        fault("level 63, which is right", 1, row.fillByte('1').size(), row);
        row = upTo(60);
        int at = row.size();
        fault("the number of a level beyond is not read", 7, at, row.restSymbol(16 * 9 + 10).fillByte('1'));
    }

    private static void marksInData() {
        Rows row = told().scan(7, 0);
        fault("a MARK instead of DATA", 7, row.size(), row.mark(217));
        row = told().scan(7, 0);
        fault("MARK 208 instead of DATA", 7, row.size(), row.mark(208));
        row = told().scan(7, 0).start(2047).fillByte('1');
        fault("a MARK within a block", 7, row.size(), row.add(255, 255, 255).mark(217));
        row = told().scan(7, 0).start(2047).fillByte('1');
        fault("bytes 255 within a block", 7, row.size(), row.add(255, 255));
        row = told().scan(7, 0).start(2047).fillByte('1');
        fault("a byte 255 at the end", 1, row.size() + 1, row.add(255));
        row = told().scan(7, 0).bits("10110000");
        fault("a MARK within a number", 7, row.size(), row.mark(217));
        row = told().scan(7, 0).bits(Rows.binary(0, 12)).bits("0000");
        fault("a MARK within a symbol for rests", 7, row.size(), row.mark(217));
        row = told().interval(2).scan(7, 0).bits(Rows.binary(0, 12)).fillByte('1');
        fault("a MARK that is not due yet", 7, row.size(), row.mark(208));
        row = told().interval(1).scan(7, 0).bits(Rows.binary(0, 12)).fillByte('1').mark(208);
        fault("a MARK at once behind MARK 208", 7, row.size(), row.mark(209));
    }

    private static void bytesBehind() {
        Rows row = told().scan(7, 0).bits(Rows.binary(0, 24)).mark(217);
        int at = row.size();
        fault("a byte behind MARK 217", 8, at, row.add(0));
        fault("more bytes behind MARK 217", 8, at, row.many(30, 255));
        row = told().scan(7, 0).bits(Rows.binary(0, 24)).mark(217);
        fault("a row behind a row", 8, at, row.mark(216).mark(217));
    }

    /** "LENGTHS and numbers of two bytes when both are read": where the second one is missing the TAPE ends too early. */
    private static void halvesOfNumbers() {
        for (int half : new int[] {0, 1, 64, 65, 255}) {
            for (int m : new int[] {219, 196, 192, 221, 224, 239, 254}) {
                fault("half of a LENGTH of MARK " + m, 1, 5, head().mark(m).add(half));
            }
            Rows row = told();
            fault("half of a LENGTH of a scan", 1, row.size() + 3, row.mark(218).add(half));
            fault("half of a height", 1, 8, head().mark(192).two(11).add(8, half));
            fault("half of a width", 1, 10, head().mark(192).two(11).add(8, 0, 64, half));
            fault("half of an INTERVAL", 1, 7, head().mark(221).two(4).add(half));
        }
        fault("a height is looked at before the width is read", 5, 7, head().mark(192).two(11).add(8, 0, 65));
        fault("a width is looked at before the layers are read", 5, 9, head().mark(192).two(11).add(8, 0, 64, 0, 65));
    }

    /** A MARK that can't come is told by its m: nothing behind it is looked at. */
    private static void marksAtTheEnd() {
        for (int m = 0; m < 255; m++) {
            if (m != 216) {
                fault("a first MARK " + m + " at the end", 3, 1, 255, m);
            }
            boolean can = m == 192 || m == 196 || m == 219 || m == 221 || m >= 224 && m <= 239 || m == 254;
            fault("a second MARK " + m + " at the end", can ? 1 : 3, can ? 4 : 3, 255, 216, 255, m);
            boolean then = can && m != 192 || m == 218;
            Rows row = told();
            fault("MARK " + m + " behind the frame, at the end", then ? 1 : 3, row.size() + (then ? 2 : 1), row.mark(m));
        }
        fault("a first byte 255 at the end", 1, 1, 255);
        fault("first bytes 255 at the end", 1, 3, 255, 255, 255);
        fault("bytes 255 behind MARK 216 at the end", 1, 4, 255, 216, 255, 255);
        fault("another byte behind a first 255, which is the m", 3, 1, 255, 0, 255, 216);
    }

    private static void firstOfTwoInFrames() {
        fault("another byte than 8, height 0", 5, 6, head().mark(192).two(11).add(7, 0, 0, 0, 0, 2));
        fault("height 0, width 0", 5, 7, head().mark(192).two(11).add(8, 0, 0, 0, 0, 2));
        fault("width 0, two layers", 5, 9, head().mark(192).two(12).add(8, 0, 1, 0, 0, 2));
        fault("two layers, a LENGTH of 12", 5, 11, head().mark(192).two(12).add(8, 0, 1, 0, 1, 2));
        fault("a LENGTH of 12, factors 0", 4, 4, head().mark(192).two(12).add(8, 0, 1, 0, 1, 1, 1, 0, 9));
        fault("a LENGTH of 12, and no layer is read", 4, 4, head().mark(192).two(12).add(8, 0, 1, 0, 1, 1));
        fault("factors 0, table 9", 5, 13, head().frame(8, 8, 1, 0, 9));
        fault("table 9, the same NAME", 5, 14, head().frame(8, 8, 1, 17, 9, 1, 17, 0, 2, 17, 0));
        fault("the same NAME, factors 0", 5, 15, head().frame(8, 8, 1, 17, 0, 1, 0, 0, 2, 17, 0));
        fault("factors of the second layer, NAME of the third", 5, 16, head().frame(8, 8, 1, 17, 0, 2, 0x31, 0, 2, 17, 0));
        fault("a NAME, and the TAPE ends", 5, 15, Arrays.copyOf(head().frame(8, 8, 1, 17, 0, 1, 17, 0, 2, 17, 0).row(), 16));
        fault("a right NAME, and the TAPE ends", 1, 16, Arrays.copyOf(head().frame(8, 8, 1, 17, 0, 2, 17, 0, 3, 17, 0).row(), 16));
    }

    private static void firstOfTwoInScans() {
        int at = told().size() + 4;
        fault("two layers of one, a LENGTH of 9", 5, at, told().mark(218).two(9).add(2, 8, 9, 0, 63, 0));
        fault("a LENGTH of 9, another NAME", 4, at - 2, told().mark(218).two(9).add(1, 8, 9, 0, 63, 0));
        fault("a LENGTH of 9, and no NAME is read", 4, at - 2, told().mark(218).two(9).add(1));
        fault("another NAME, codes 9", 5, at + 1, told().scan(8, 9));
        fault("codes 9, then 1, 63, 0", 5, at + 2, told().mark(218).two(8).add(1, 7, 9, 1, 63, 0));
        fault("1, 62, 1", 5, at + 3, told().mark(218).two(8).add(1, 7, 0, 1, 62, 1));
        fault("0, 62, 1", 5, at + 4, told().mark(218).two(8).add(1, 7, 0, 0, 62, 1));
        int bare = head().frame(8, 8, 7, 17, 2).size() + 4;
        fault("another NAME, no table", 5, bare + 1, head().frame(8, 8, 7, 17, 2).scan(8, 0));
        fault("no table, and the TAPE ends behind the NAME", 6, bare + 1, head().frame(8, 8, 7, 17, 2).mark(218).two(8).add(1, 7));
        fault("no table, codes 9", 6, bare + 1, head().frame(8, 8, 7, 17, 2).scan(7, 9));
        int tabled = head().table(2, 1).frame(8, 8, 7, 17, 2).size() + 4;
        fault("codes 34, none of them told", 5, tabled + 2, head().table(2, 1).frame(8, 8, 7, 17, 2).scan(7, 34));
        fault("no codes, then 1, 63, 0", 6, tabled + 2, head().table(2, 1).frame(8, 8, 7, 17, 2).mark(218).two(8).add(1, 7, 0, 1, 63, 0));
        fault("no codes, and the TAPE ends", 6, tabled + 2, head().table(2, 1).frame(8, 8, 7, 17, 2).mark(218).two(8).add(1, 7, 0));
        int great = three(34, 34, 34).size() + 4;
        fault("no codes of the third layer, 12 blocks", 6, great + 6, three(34, 34, 34).scan(1, 0, 2, 0, 3, 17));
        fault("codes 2 of the third layer, 12 blocks", 5, great + 6, three(34, 34, 34).scan(1, 0, 2, 0, 3, 2));
        fault("12 blocks, and the TAPE ends", 6, great, three(34, 34, 34).scan(1, 0, 2, 0, 3, 0));
        fault("12 blocks, and a MARK instead of DATA", 6, great, three(34, 34, 34).scan(1, 0, 2, 0, 3, 0).mark(217));
    }

    private static void firstOfTwoInParts() {
        fault("table 4 in a LENGTH of 3", 5, 6, head().mark(219).two(3).add(4, 0));
        fault("a LENGTH of 3, entry 0", 4, 4, head().mark(219).two(3).add(3, 0));
        fault("entry 0 as the last one of a LENGTH of 40", 5, 42 + 1, head().mark(219).two(40).add(3).many(36, 1).add(0, 1));
        fault("entry 0 behind a LENGTH of 40", 4, 4, head().mark(219).two(40).add(3).many(37, 1).add(0, 1));
        fault("the TAPE ends within a LENGTH that is too short", 1, 20, head().mark(219).two(40).add(3).many(13, 1));
        fault("codes 2 in a LENGTH of 3", 5, 6, head().mark(196).two(3).add(2, 255));
        fault("a LENGTH of 3, codes too many", 4, 4, head().mark(196).two(3).add(1).many(16, 255));
        fault("codes too many, a wrong symbol", 5, 7, head().mark(196).two(21).add(1, 2).many(15, 0).add(99, 99));
        fault("codes too many, and the TAPE ends", 5, 7, head().mark(196).two(21).add(1, 2).many(15, 0));
        fault("a wrong symbol, then the LENGTH ends", 5, 23, head().mark(196).two(20).add(1, 0, 3).many(14, 0).add(12, 1, 2));
        fault("the LENGTH ends, then a wrong symbol", 4, 4, head().mark(196).two(20).add(1, 0, 3).many(14, 0).add(1, 12, 2));
        fault("a wrong symbol, and the TAPE ends", 5, 23, head().mark(196).two(22).add(1, 0, 3).many(14, 0).add(12));
        fault("right symbols, and the TAPE ends", 1, 24, head().mark(196).two(22).add(1, 0, 3).many(14, 0).add(11));
        fault("the second table's number", 5, 71, head().mark(219).two(132).add(0).many(64, 1).add(4).many(64, 0));
        fault("the second code's number", 5, 24, head().mark(196).two(60).add(0, 1).many(15, 0).add(0).add(18).many(16, 255));
        fault("an INTERVAL of LENGTH 5 is not read", 4, 4, head().mark(221).two(5).add(0, 1, 2).mark(217));
        fault("an INTERVAL is read to its end", 2, 8, head().mark(221).two(4).add(0, 1, 2).mark(217));
    }

    private static void firstOfTwoInData() {
        Rows row = told().scan(7, 0);
        fault("eleven bits without a code, and a MARK", 7, row.size() + 2, row.start(1).bits("111" + "11110000").mark(217));
        row = told().scan(7, 0);
        fault("sixteen bits without a code, and a MARK", 7, row.size(), row.bits("1100" + "0".repeat(12)).mark(217));
        row = told().scan(7, 0);
        fault("sixteen bits without a code, and the TAPE ends", 7, row.size(), row.bits("1100" + "0".repeat(12)));
        row = upTo(63);
        fault("level 64, whose number's bits are a MARK", 7, row.size(), row.restSymbol(17).fillByte('0').mark(217));
        row = told().scan(7, 0).start(2047).restSymbol(0);
        fault("level 2048, then a MARK", 7, row.size(), row.start(1).fillByte('0').mark(217));
        row = told().interval(1).scan(7, 0).bits(Rows.binary(0, 12)).fillByte('1');
        fault("another MARK than 208, which could not come at all", 3, row.size() + 1, row.mark(0).mark(208));
        row = told().interval(1).scan(7, 0).bits(Rows.binary(0, 12)).fillByte('1');
        fault("the TAPE ends where MARK 208 is due", 1, row.size(), row);
        row = told().interval(1).scan(7, 0).bits(Rows.binary(0, 12)).fillByte('1');
        fault("the TAPE ends within MARK 208", 1, row.size() + 1, row.add(255));
    }

    private static void firstOfTwoAtTheEnd() {
        Rows row = told();
        fault("MARK 217 too early, and bytes behind it", 3, row.size() + 1, row.mark(217).add(1, 2, 3));
        row = told().scan(7, 0).bits(Rows.binary(0, 24));
        fault("MARK 217, and 255 behind it", 8, row.size() + 2, row.mark(217).add(255));
        row = told().scan(7, 0).bits(Rows.binary(0, 24));
        fault("MARK 217, and MARK 217 behind it", 8, row.size() + 2, row.mark(217).mark(217));
        row = told().scan(7, 0).bits(Rows.binary(0, 24));
        fault("nothing behind DATA", 1, row.size(), row);
        row = told().scan(7, 0).bits(Rows.binary(0, 24));
        fault("a byte 255 behind DATA", 1, row.size() + 1, row.add(255));
    }
}
