import java.util.Arrays;

/** DATA (promise 15): bits and bytes, UNITS, INTERVALS and their MARKS, numbers of n bits and where a block ends. */
public final class DataTest {
    private static final Checks CHECKS = new Checks("DataTest");

    public static void main(String[] args) {
        numbersOfStarts();
        numbersOfRests();
        startsOfBlocks();
        firstLevelsAtTheirBounds();
        whereBlocksEnd();
        runsOfSixteen();
        symbolsOverTwoBytes();
        bytesOf255();
        bitsThatCountForNothing();
        unitsBeyondEdges();
        unitsByRows();
        intervals();
        marksGoRound();
        eachScanFrom208();
        startsAsAtFirst();
        marksWhereNoneIsDue();
        longestSymbols();
        CHECKS.finish();
    }

    private static BlockPicture right(String what, Rows row) {
        BlockPicture x = new BlockPicture();
        row.type(x);
        CHECKS.same("unpack() of " + what, x.unpack(), 0);
        CHECKS.same("place() of " + what, x.place(), -1);
        return x;
    }

    private static void wrong(String what, int fault, int place, Rows row) {
        BlockPicture x = new BlockPicture();
        row.type(x);
        CHECKS.same("unpack() of " + what, x.unpack(), fault);
        CHECKS.same("place() of " + what, x.place(), place);
    }

    private static Rows told(int width, int height) {
        return new Rows().mark(216).table(0, 8).starts(0).rests(0).frame(width, height, 1, 17, 0);
    }

    private static Rows end(Rows row) {
        return row.fillByte('1').mark(217);
    }

    /** "A number of n bits: with a first bit 1 as it is; with 0 it is less 2^n - 1; of 0 bits it is 0": n 0 .. 11. */
    private static void numbersOfStarts() {
        CHECKS.same("0 bits", right("0 bits", end(told(8, 8).scan(1, 0).bits("0000").restSymbol(0))).level(1, 0, 0, 0), 0);
        for (int n = 1; n <= 11; n++) {
            int[] values = {0, (1 << n - 1) - 1, 1 << n - 1, (1 << n) - 1};
            int[] due = {1 - (1 << n), -(1 << n - 1), 1 << n - 1, (1 << n) - 1};
            for (int i = 0; i < 4; i++) {
                Rows row = told(8, 8).scan(1, 0).bits(Rows.binary(n, 4)).bits(Rows.binary(values[i], n)).restSymbol(0);
                CHECKS.same("bits " + values[i] + " of " + n, right(n + " bits", end(row)).level(1, 0, 0, 0), due[i]);
            }
        }
    }

    private static void numbersOfRests() {
        for (int n = 1; n <= 10; n++) {
            int[] values = {0, (1 << n - 1) - 1, 1 << n - 1, (1 << n) - 1};
            int[] due = {1 - (1 << n), -(1 << n - 1), 1 << n - 1, (1 << n) - 1};
            for (int i = 0; i < 4; i++) {
                Rows row = told(8, 8).scan(1, 0).start(0).restSymbol(n).bits(Rows.binary(values[i], n))
                        .restSymbol(16 * 15 + n).bits(Rows.binary(values[3 - i], n)).restSymbol(0);
                BlockPicture x = right(n + " bits", end(row));
                CHECKS.same("bits " + values[i] + " of " + n, x.level(1, 0, 0, 1), due[i]);
                CHECKS.same("bits " + values[3 - i] + " of " + n + ", 15 more", x.level(1, 0, 0, 17), due[3 - i]);
                CHECKS.same("the level between", x.level(1, 0, 0, 16), 0);
                CHECKS.same("the level behind", x.level(1, 0, 0, 18), 0);
            }
        }
    }

    /** "its first level is that of the block before it in its layer (0 at first) and a number of n bits". */
    private static void startsOfBlocks() {
        BlockPicture x = right("four blocks", end(told(16, 16).scan(1, 0).start(100).restSymbol(0).start(0).restSymbol(0).start(-300).rest(0, 5)
                .restSymbol(0).start(1).restSymbol(0)));
        int[] due = {100, 100, -200, -199};
        for (int block = 0; block < 4; block++) {
            CHECKS.same("block " + block, x.level(1, 0, block, 0), due[block]);
        }
        // Of several layers each has its own; a unit's second block of a layer goes by its first one.
        Rows row = new Rows().mark(216).table(0, 8).starts(0).rests(0).frame(32, 8, 1, 0x21, 0, 2, 17, 0, 3, 17, 0).scan(1, 0, 2, 0, 3, 0);
        row.start(10).restSymbol(0).start(1).restSymbol(0).start(-20).restSymbol(0).start(40).restSymbol(0);
        row.start(2).restSymbol(0).start(3).restSymbol(0).start(-5).restSymbol(0).start(6).restSymbol(0);
        BlockPicture y = right("three layers", end(row));
        int[] first = {10, 11, 13, 16};
        for (int block = 0; block < 4; block++) {
            CHECKS.same("block " + block + " of the first layer", y.level(1, 0, block, 0), first[block]);
        }
        CHECKS.same("the second layer", y.level(1, 1, 0, 0), -20);
        CHECKS.same("the second layer", y.level(1, 1, 1, 0), -25);
        CHECKS.same("the third layer", y.level(1, 2, 0, 0), 40);
        CHECKS.same("the third layer", y.level(1, 2, 1, 0), 46);
    }

    /** "a first level beyond -2047 .. 2047": at the byte with the symbol's first bit. */
    private static void firstLevelsAtTheirBounds() {
        for (int sign = -1; sign <= 1; sign += 2) {
            BlockPicture x = right("2046 and 1", end(told(16, 8).scan(1, 0).start(2046 * sign).restSymbol(0).start(sign).restSymbol(0)));
            CHECKS.same("the second block", x.level(1, 0, 1, 0), 2047 * sign);
            Rows row = told(16, 8).scan(1, 0).start(2046 * sign).restSymbol(0);
            // 4, 11 and 8 bits come before it: its symbol begins with a byte's last bit.
            wrong("2046 and 2", 7, row.size(), end(row.start(2 * sign).restSymbol(0)));
            row = told(16, 8).scan(1, 0).start(2047 * sign).restSymbol(0);
            wrong("2047 and 2047", 7, row.size(), end(row.start(2047 * sign).restSymbol(0)));
            right("2047 and -2047 - 2047", end(told(24, 8).scan(1, 0).start(2047 * sign).restSymbol(0).start(-2047 * sign).restSymbol(0)
                    .start(-2047 * sign).restSymbol(0)));
        }
        // The number's bits are read before: where they end, that is the FAULT.
        Rows row = told(16, 8).scan(1, 0).start(2047).restSymbol(0).bits("1011" + "11111");
        wrong("a MARK within the number", 7, row.size(), row.mark(217));
        row = told(16, 8).scan(1, 0).start(2047).restSymbol(0).bits("1011" + "11111");
        wrong("the TAPE's end within the number", 1, row.size(), row);
    }

    /** "as long as k is below 64": a level 63 ends the block without a symbol 0; one before it does not. */
    private static void whereBlocksEnd() {
        for (int last = 1; last <= 63; last++) {
            int[] levels = new int[64];
            levels[last] = 3;
            levels[0] = 1;
            // No symbol 0 stands behind level 63: the next block begins at once.
            BlockPicture x = right("a last level at " + last, end(told(16, 8).scan(1, 0).block(0, levels).block(1, levels)));
            for (int block = 0; block < 2; block++) {
                for (int k = 0; k < 64; k++) {
                    CHECKS.same("level " + k, x.level(1, 0, block, k), levels[k]);
                }
            }
        }
        BlockPicture x = right("a block of 63 levels", end(full(told(8, 8).scan(1, 0))));
        for (int k = 0; k < 64; k++) {
            CHECKS.same("level " + k + " of 63", x.level(1, 0, 0, k), k % 2 == 0 ? -k : k);
        }
    }

    private static Rows full(Rows row) {
        row.start(0);
        for (int k = 1; k < 64; k++) {
            row.rest(0, k % 2 == 0 ? -k : k);
        }
        return row;
    }

    /** "240 makes k 16 more"; "beyond 64" is a FAULT, 64 ends the block; so may 0 behind any of them. */
    private static void runsOfSixteen() {
        for (int runs = 0; runs <= 3; runs++) {
            Rows row = told(8, 8).scan(1, 0).start(7);
            for (int i = 0; i < runs; i++) {
                row.restSymbol(240);
            }
            CHECKS.same("a block", right(runs + " times 240, then 0", end(row.restSymbol(0))).level(1, 0, 0, 0), 7);
        }
        for (int k = 1; k <= 63; k++) {
            // A level just before k, and then 240.
            Rows row = told(16, 8).scan(1, 0).start(0);
            int zeros = k - 2;
            for (; zeros >= 16; zeros -= 16) {
                row.restSymbol(240);
            }
            if (zeros >= 0) {
                row.rest(zeros, 1);
            }
            int at = row.size();
            row.restSymbol(240);
            if (k + 16 < 64) {
                right("240 at " + k, end(row.restSymbol(0).start(2).restSymbol(0)));
            } else if (k + 16 == 64) {
                BlockPicture x = right("240 up to 64", end(row.start(2).restSymbol(0)));
                CHECKS.same("the next block", x.level(1, 0, 1, 0), 2);
            } else {
                wrong("240 at " + k, 7, at, end(row));
            }
        }
        // Each j, up to level 63 and just beyond it.
        for (int j = 0; j <= 15; j++) {
            Rows row = upTo(63 - j).rest(j, -1);
            CHECKS.same("level 63", right(j + " more up to 63", end(row)).level(1, 0, 0, 63), -1);
            if (j > 0) {
                row = upTo(64 - j);
                wrong(j + " more up to 64", 7, row.size(), row.restSymbol(16 * j + 1).fillByte('1'));
            }
        }
    }

    /** DATA of which the next symbol for rests comes when k is this: levels 1 stand before it. */
    private static Rows upTo(int k) {
        Rows row = told(8, 8).scan(1, 0).start(0);
        for (int i = 1; i < k; i++) {
            row.rest(0, 1);
        }
        return row;
    }

    /** "at the byte with the symbol's first bit": whatever bit of it that is. */
    private static void symbolsOverTwoBytes() {
        for (int n = 1; n <= 11; n++) {
            Rows row = told(8, 8).scan(1, 0);
            int at = row.size() + (4 + n + 3 * 8) / 8;
            row.bits(Rows.binary(n, 4)).bits("10".repeat(6).substring(0, n));
            wrong("240 a fourth time, behind " + (28 + n) + " bits", 7, at,
                    row.restSymbol(240).restSymbol(240).restSymbol(240).restSymbol(240).fillByte('1'));
        }
    }

    /** "a byte 255 has a byte 0 behind it, which counts for nothing": within numbers, wherever they begin. */
    private static void bytesOf255() {
        int seen = 0;
        for (int n = 1; n <= 16; n++) {
            Rows row = new Rows().mark(216).table(0, 8).mark(196).two(20).add(0).many(n - 1, 0).add(1).many(16 - n, 0).add(11)
                    .rests(0).frame(8, 8, 1, 17, 0).scan(1, 0);
            int at = row.size();
            row.bits("0".repeat(n) + "1".repeat(11)).rest(0, 1023).restSymbol(0);
            int bits = n + 11 + 8 + 10 + 8;
            end(row);
            seen += row.size() - 2 - at - (bits + 7) / 8;
            BlockPicture x = right("bits 1 behind " + n + " bits 0", row);
            CHECKS.same("the first level behind " + n + " bits 0", x.level(1, 0, 0, 0), 2047);
            CHECKS.same("the second level behind " + n + " bits 0", x.level(1, 0, 0, 1), 1023);
        }
        CHECKS.isTrue("bytes 255 were among them", seen >= 8);
        lastByte255();
    }

    /** The last byte is 255 and has a 0 behind it: its first bits are those of the last number; then the MARK comes. */
    private static void lastByte255() {
        Rows row = new Rows().mark(216).table(0, 8).starts(0).mark(196).two(20).add(16, 1).many(15, 0).add(10).frame(16, 8, 1, 17, 0);
        // 63 levels of 11 bits each, codes of 1 bit: the last ones are bits 1.
        row.interval(1).scan(1, 0);
        for (int block = 0; block < 2; block++) {
            row.start(0);
            for (int k = 1; k < 64; k++) {
                row.bits("0" + "1111111111");
            }
            row.fillByte('1');
            int[] bytes = row.row();
            CHECKS.same("the last byte but one", bytes[bytes.length - 2], 255);
            CHECKS.same("the last byte", bytes[bytes.length - 1], 0);
            row.mark(block == 0 ? 208 : 217);
        }
        BlockPicture x = right("last bytes 255", row);
        CHECKS.same("the last level of the first block", x.level(1, 0, 0, 63), 1023);
        CHECKS.same("the last level of the second block", x.level(1, 0, 1, 63), 1023);
        int[] cut = row.row();
        // Without the byte 0 the last byte 255 would be a MARK where bits are still to come.
        Rows without = new Rows().add(Arrays.copyOf(cut, cut.length - 3)).mark(217);
        wrong("the last byte 255 without its 0", 7, cut.length - 4, without);
        wrong("the last byte 255 at the TAPE's end", 1, cut.length - 3, new Rows().add(Arrays.copyOf(cut, cut.length - 3)));
    }

    /** "Behind the last unit bits up to the end of the byte count for nothing": any bits. */
    private static void bitsThatCountForNothing() {
        for (int rest = 0; rest < 16; rest++) {
            Rows row = told(8, 8).scan(1, 0).bits("0000").restSymbol(0).bits(Rows.binary(rest, 4)).mark(217);
            right("bits " + rest + " at the end", row);
            row = told(16, 8).interval(1).scan(1, 0).bits("0000").restSymbol(0).bits(Rows.binary(rest, 4)).mark(208)
                    .bits("0000").restSymbol(0).bits(Rows.binary(rest, 4)).mark(217);
            right("bits " + rest + " before a MARK", row);
        }
        // A whole byte more is no MARK.
        Rows row = told(8, 8).scan(1, 0).bits("0000").restSymbol(0).fillByte('1');
        wrong("a byte more", 2, row.size(), row.add(0).mark(217));
        row = told(8, 8).scan(1, 0).bits("0000").restSymbol(0).fillByte('1');
        wrong("255 and 0 more", 3, row.size() + 1, row.add(255, 0).mark(217));
        // Bits that end with their byte: nothing is left over.
        row = told(16, 8).scan(1, 0).bits("0".repeat(24));
        right("bits that end with their byte", row.mark(217));
    }

    /** "with several ones .. of each layer its a by d blocks (by rows), also those beyond its edges". */
    private static void unitsBeyondEdges() {
        Rows row = new Rows().mark(216).table(0, 8).starts(0).rests(0).frame(1, 1, 1, 0x22, 0, 2, 0x21, 0, 3, 0x12, 0).scan(1, 0, 2, 0, 3, 0);
        for (int i = 1; i <= 8; i++) {
            row.start(i).restSymbol(0);
        }
        BlockPicture x = right("a picture of one sample and eight blocks", end(row));
        int[][] due = {{1, 3, 6, 10}, {5, 11}, {7, 15}};
        for (int layer = 0; layer < 3; layer++) {
            for (int block = 0; block < due[layer].length; block++) {
                CHECKS.same("block " + block + " of layer " + layer, x.level(1, layer, block, 0), due[layer][block]);
            }
        }
        row = new Rows().mark(216).table(0, 8).starts(0).rests(0).frame(1, 1, 1, 0x22, 0, 2, 0x21, 0, 3, 0x12, 0).scan(1, 0, 2, 0, 3, 0);
        for (int i = 1; i <= 7; i++) {
            row.start(i).restSymbol(0);
        }
        row.fillByte('1');
        wrong("only seven of them", 7, row.size(), row.mark(217));
    }

    /** Two of three layers: units go by the A and D of the picture, also where only the third layer has them. */
    private static void unitsByRows() {
        Rows row = new Rows().mark(216).table(0, 8).starts(0).rests(0).frame(32, 32, 1, 17, 0, 2, 0x12, 0, 3, 0x22, 0).scan(1, 0, 2, 0);
        for (int i = 1; i <= 12; i++) {
            row.start(1).restSymbol(0);
        }
        row.fillByte('1').scan(3, 0);
        for (int i = 0; i < 16; i++) {
            row.start(i).restSymbol(0);
        }
        BlockPicture x = right("two scans", end(row));
        for (int block = 0; block < 4; block++) {
            CHECKS.same("block " + block + " of the first layer", x.level(1, 0, block, 0), block + 1);
        }
        // Across 1 and down 2: block 0 and 2 in the first unit, 1 and 3 in the second.
        int[] second = {1, 3, 2, 4, 5, 7, 6, 8};
        for (int block = 0; block < 8; block++) {
            CHECKS.same("block " + block + " of the second layer", x.level(1, 1, block, 0), second[block]);
        }
        int sum = 0;
        for (int block = 0; block < 16; block++) {
            sum += block;
            CHECKS.same("block " + block + " of the third layer", x.level(1, 2, block, 0), sum);
        }
    }

    /** "With an INTERVAL i, behind each i units, if more come": i of 1 .. 9 with 8 units. */
    private static void intervals() {
        for (int interval = 1; interval <= 9; interval++) {
            Rows row = told(64, 8).interval(interval).scan(1, 0);
            for (int unit = 0; unit < 8; unit++) {
                if (unit > 0 && unit % interval == 0) {
                    row.fillByte('1').mark(208 + unit / interval - 1);
                }
                row.start(3).restSymbol(0);
            }
            row.fillByte('1');
            int at = row.size();
            int marks = 7 / interval;
            BlockPicture x = right("INTERVAL " + interval, row.mark(217));
            for (int unit = 0; unit < 8; unit++) {
                CHECKS.same("unit " + unit + " by INTERVAL " + interval, x.level(1, 0, unit, 0), 3 * (unit % interval + 1));
            }
            Rows more = new Rows().add(Arrays.copyOf(row.row(), at)).mark(208 + marks).mark(217);
            wrong("a MARK behind the last unit, INTERVAL " + interval, 3, at + 1, more);
        }
    }

    /** "208, 209, .. 215, 208 and so on". */
    private static void marksGoRound() {
        for (int wrongAt = 1; wrongAt <= 40; wrongAt++) {
            Rows row = told(64, 64).interval(1).scan(1, 0);
            int at = 0;
            for (int unit = 0; unit < 64; unit++) {
                if (unit > 0) {
                    at = unit == wrongAt ? row.fillByte('1').size() + 1 : at;
                    row.fillByte('1').mark(208 + (unit - (unit >= wrongAt ? 2 : 1) + 8) % 8);
                }
                row.start(0).restSymbol(0);
            }
            wrong("MARK " + wrongAt + " told twice", 3, at, end(row));
        }
        Rows row = told(64, 64).interval(1).scan(1, 0);
        for (int unit = 0; unit < 64; unit++) {
            if (unit > 0) {
                row.fillByte('1').mark(new int[] {208, 209, 210, 211, 212, 213, 214, 215}[(unit - 1) % 8]);
            }
            row.start(unit).restSymbol(0);
        }
        BlockPicture x = right("63 MARKS", end(row));
        CHECKS.same("the last unit", x.level(1, 0, 63, 0), 63);
    }

    /** "(in each scan from 208 on)", whatever the scan before ended with. */
    private static void eachScanFrom208() {
        Rows row = new Rows().mark(216).table(0, 8).starts(0).rests(0).frame(24, 8, 1, 17, 0, 2, 17, 0, 3, 17, 0).interval(1);
        for (int name = 1; name <= 3; name++) {
            row.scan(name, 0);
            for (int unit = 0; unit < 3; unit++) {
                if (unit > 0) {
                    row.fillByte('1').mark(207 + unit);
                }
                row.start(unit + name).restSymbol(0);
            }
            row.fillByte('1');
        }
        BlockPicture x = right("three scans with MARKS", row.mark(217));
        CHECKS.same("the last block", x.level(1, 2, 2, 0), 5);
    }

    /** "then the layers' starts are as at first": of all layers; and at the first unit of each scan. */
    private static void startsAsAtFirst() {
        Rows row = new Rows().mark(216).table(0, 8).starts(0).rests(0).frame(24, 8, 1, 17, 0, 2, 17, 0, 3, 17, 0).interval(2).scan(1, 0, 2, 0, 3, 0);
        for (int unit = 0; unit < 3; unit++) {
            if (unit == 2) {
                row.fillByte('1').mark(208);
            }
            for (int layer = 0; layer < 3; layer++) {
                row.start(100 + layer).restSymbol(0);
            }
        }
        BlockPicture x = right("starts", end(row));
        for (int layer = 0; layer < 3; layer++) {
            for (int unit = 0; unit < 3; unit++) {
                CHECKS.same("unit " + unit, x.level(1, layer, unit, 0), (unit == 1 ? 2 : 1) * (100 + layer));
            }
        }
    }

    private static void marksWhereNoneIsDue() {
        for (int m = 1; m < 256; m++) {
            Rows row = told(16, 8).scan(1, 0).bits("0".repeat(16));
            wrong("MARK " + m + " where bits are still to come", 7, row.size(), row.add(255, m, 0, 0));
            if (m != 208) {
                row = told(16, 8).interval(1).scan(1, 0).start(0).restSymbol(0).fillByte('0');
                wrong("MARK " + m + " where 208 is due", m == 255 ? 1 : 3, row.size() + (m == 255 ? 2 : 1), row.add(255, m));
            }
        }
        Rows row = told(16, 8).scan(1, 0).bits("0".repeat(16));
        wrong("255 and 0 are bits", 1, row.size() + 2, row.add(255, 0));
    }

    /** Codes of 16 bits: symbols and numbers reach over many bytes, and over bytes 255. */
    private static void longestSymbols() {
        String eleven = "1".repeat(11);
        Rows row = new Rows().mark(216).table(0, 8).mark(196).two(19 + 16).add(0).many(16, 1).many(15, 0).add(11)
                .mark(196).two(19 + 16).add(16).many(16, 1).many(14, 1).add(10, 0).frame(8, 8, 1, 17, 0).scan(1, 0);
        row.bits("1".repeat(15) + "0" + eleven).bits("1".repeat(14) + "0" + "1111111111").bits("1".repeat(15) + "0");
        BlockPicture x = right("codes of 15 and 16 bits", end(row));
        CHECKS.same("the first level", x.level(1, 0, 0, 0), 2047);
        CHECKS.same("the second level", x.level(1, 0, 0, 1), 1023);
        CHECKS.same("the third level", x.level(1, 0, 0, 2), 0);
        Rows none = new Rows().mark(216).table(0, 8).mark(196).two(19 + 16).add(0).many(16, 1).many(15, 0).add(11)
                .rests(0).frame(8, 8, 1, 17, 0).scan(1, 0);
        wrong("16 bits 1", 7, none.size(), none.add(255, 0, 255, 0));
    }
}
