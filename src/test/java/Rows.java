import java.util.ArrayList;
import java.util.List;

/** Makes packed rows by hand, right and wrong ones. */
final class Rows {
    static final int STARTS = 12;

    private final List<Integer> bytes = new ArrayList<>();
    private final StringBuilder bits = new StringBuilder();

    int size() {
        return bytes.size();
    }

    int[] row() {
        return bytes.stream().mapToInt(Integer::intValue).toArray();
    }

    Rows add(int... values) {
        for (int value : values) {
            bytes.add(value & 255);
        }
        return this;
    }

    Rows two(int value) {
        return add(value >> 8, value);
    }

    Rows mark(int m) {
        return add(255, m);
    }

    Rows many(int count, int value) {
        for (int i = 0; i < count; i++) {
            add(value);
        }
        return this;
    }

    /** A section of one table with all entries alike. */
    Rows table(int number, int entry) {
        return mark(219).two(67).add(number).many(64, entry);
    }

    /** A section of one code for starts: 0 .. 11, all of 4 bits. */
    Rows starts(int number) {
        mark(196).two(19 + STARTS).add(number).many(3, 0).add(STARTS).many(12, 0);
        for (int symbol = 0; symbol < STARTS; symbol++) {
            add(symbol);
        }
        return this;
    }

    static List<Integer> restSymbols() {
        List<Integer> symbols = new ArrayList<>();
        for (int symbol = 0; symbol < 256; symbol++) {
            int low = symbol % 16;
            if (symbol == 0 || symbol == 240 || low >= 1 && low <= 10) {
                symbols.add(symbol);
            }
        }
        return symbols;
    }

    /** A section of one code for rests: all of its symbols in order, all of 8 bits. */
    Rows rests(int number) {
        List<Integer> symbols = restSymbols();
        mark(196).two(19 + symbols.size()).add(16 + number).many(7, 0).add(symbols.size()).many(8, 0);
        symbols.forEach(symbol -> add(symbol));
        return this;
    }

    /** Threes: NAME, 16 a + d, table. */
    Rows frame(int width, int height, int... threes) {
        return mark(192).two(8 + threes.length).add(8).two(height).two(width).add(threes.length / 3).add(threes);
    }

    Rows interval(int n) {
        return mark(221).two(4).two(n);
    }

    /** Pairs: NAME, 16 s + r. */
    Rows scan(int... pairs) {
        return mark(218).two(6 + pairs.length).add(pairs.length / 2).add(pairs).add(0, 63, 0);
    }

    /** Bits of DATA, told as a text of 0 and 1; whole bytes go out, with a 0 behind a byte 255. */
    Rows bits(String more) {
        bits.append(more);
        while (bits.length() >= 8) {
            int value = Integer.parseInt(bits.substring(0, 8), 2);
            bits.delete(0, 8);
            add(value);
            if (value == 255) {
                add(0);
            }
        }
        return this;
    }

    Rows fillByte(char with) {
        while (bits.length() > 0) {
            bits(String.valueOf(with));
        }
        return this;
    }

    static String binary(int value, int n) {
        StringBuilder text = new StringBuilder();
        for (int i = n - 1; i >= 0; i--) {
            text.append(value >> i & 1);
        }
        return text.toString();
    }

    static int bitsOf(int number) {
        return number == 0 ? 0 : Integer.toBinaryString(Math.abs(number)).length();
    }

    static String number(int number) {
        int n = bitsOf(number);
        return binary(number < 0 ? number + (1 << n) - 1 : number, n);
    }

    /** By the code of starts(..). */
    Rows start(int more) {
        return bits(binary(bitsOf(more), 4)).bits(number(more));
    }

    /** By the code of rests(..). */
    Rows restSymbol(int symbol) {
        return bits(binary(restSymbols().indexOf(symbol), 8));
    }

    Rows rest(int zeros, int level) {
        return restSymbol(16 * zeros + bitsOf(level)).bits(number(level));
    }

    /** A block by starts(..) and rests(..): its levels, of which the first one comes behind another. */
    Rows block(int before, int[] levels) {
        start(levels[0] - before);
        int zeros = 0;
        for (int k = 1; k < 64; k++) {
            if (levels[k] == 0) {
                zeros++;
                continue;
            }
            for (; zeros >= 16; zeros -= 16) {
                restSymbol(240);
            }
            rest(zeros, levels[k]);
            zeros = 0;
        }
        return zeros > 0 ? restSymbol(0) : this;
    }

    /** Types a row on the TAPE, which has nothing else then. */
    static void type(BlockPicture x, int... row) {
        x.end(0);
        int[] words = new int[(row.length + 19) / 20 * 5];
        for (int i = 0; i < row.length; i++) {
            words[i / 4] |= row[i] << 24 - 8 * (i % 4);
        }
        for (int i = 0; i < words.length; i += 5) {
            x.feed(words[i], words[i + 1], words[i + 2], words[i + 3], words[i + 4]);
        }
        x.end(row.length);
    }

    void type(BlockPicture x) {
        type(x, row());
    }
}
