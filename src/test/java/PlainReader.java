import java.util.ArrayList;
import java.util.HashSet;
import java.util.List;
import java.util.Map;
import java.util.Set;
import java.util.TreeMap;

/** Reads a packed row as the document tells it, in its plainest form: the picture, or the FAULT and its place. */
final class PlainReader {
    private static final class Fault extends RuntimeException {
        private static final long serialVersionUID = 1;
        private final int number;
        private final int place;

        Fault(int number, int place) {
            this.number = number;
            this.place = place;
        }
    }

    /** A bit of DATA, and the byte that it stands in. */
    private record Bit(char bit, int at) { }

    private record Layer(int name, int table) { }

    int fault;
    int place = -1;
    /** The picture, with the tables by which its layers go. */
    Plain picture;
    int[][] tablesUsed;

    private final int[] row;
    private int at;
    private int interval;
    private final Map<Integer, int[]> tables = new TreeMap<>();
    /** By the byte that tells which ones they are: each code's bits with its symbol. */
    private final Map<Integer, Map<String, Integer>> codes = new TreeMap<>();
    private final List<Layer> layers = new ArrayList<>();
    private final Set<Integer> scanned = new HashSet<>();

    private final List<Bit> bits = new ArrayList<>();
    private int bitsUsed;
    private int symbolAt;

    PlainReader(int... row) {
        this.row = row;
        try {
            read();
        } catch (Fault e) {
            fault = e.number;
            place = e.place;
            picture = null;
        }
    }

    private void want(boolean right, int number, int place) {
        if (!right) {
            throw new Fault(number, place);
        }
    }

    private int next() {
        want(at < row.length, 1, row.length);
        return row[at++];
    }

    /** A byte that must be one of these. */
    private int one(int... right) {
        int value = next();
        for (int r : right) {
            if (r == value) {
                return value;
            }
        }
        throw new Fault(5, at - 1);
    }

    private int two() {
        return 256 * next() + next();
    }

    private int mark() {
        want(next() == 255, 2, at - 1);
        int m = 255;
        while (m == 255) {
            m = next();
        }
        return m;
    }

    private void read() {
        want(mark() == 216, 3, at - 1);
        int m = mark();
        while (m != 217) {
            section(m);
            m = mark();
        }
        want(picture != null && scanned.size() == layers.size(), 3, at - 1);
        want(at == row.length, 8, at);
    }

    private void section(int m) {
        boolean anything = m == 254 || m >= 224 && m <= 239;
        boolean right = anything || m == 219 || m == 196 || m == 221 || m == 192 && picture == null || m == 218 && picture != null;
        want(right, 3, at - 1);
        int lengthAt = at;
        int length = two();
        if (m == 192) {
            frame(length, lengthAt);
        } else if (m == 218) {
            scan(length, lengthAt);
        } else if (m == 221) {
            want(length == 4, 4, lengthAt);
            interval = two();
        } else if (anything) {
            want(length >= 2, 4, lengthAt);
            at = Math.min(row.length, lengthAt + length);
        } else {
            want(length >= 3, 4, lengthAt);
            while (at < lengthAt + length) {
                part(m, lengthAt, lengthAt + length);
            }
        }
    }

    private int within(int lengthAt, int end) {
        want(at < end, 4, lengthAt);
        return next();
    }

    private void part(int m, int lengthAt, int end) {
        if (m == 219) {
            int number = one(0, 1, 2, 3);
            int[] table = new int[64];
            for (int k = 0; k < 64; k++) {
                table[k] = within(lengthAt, end);
                want(table[k] != 0, 5, at - 1);
            }
            tables.put(number, table);
            return;
        }
        int kind = one(0, 1, 16, 17);
        int countsAt = at;
        List<Integer> lengths = new ArrayList<>();
        for (int n = 1; n <= 16; n++) {
            for (int count = within(lengthAt, end); count > 0; count--) {
                lengths.add(n);
            }
        }
        List<String> given = given(lengths);
        want(given != null, 5, countsAt);
        Map<String, Integer> told = new TreeMap<>();
        for (String code : given) {
            int symbol = within(lengthAt, end);
            int low = symbol & 15;
            boolean right = kind < 2 ? symbol <= 11 : symbol == 0 || symbol == 240 || low >= 1 && low <= 10;
            want(right, 5, at - 1);
            told.put(code, symbol);
        }
        codes.put(kind, told);
    }

    /** The codes of these lengths, or null if they are too many. */
    private static List<String> given(List<Integer> lengths) {
        if (lengths.size() > 256) {
            return null;
        }
        List<String> given = new ArrayList<>();
        String code = "";
        for (int length : lengths) {
            String zeros = "0".repeat(length - code.length());
            // The number before and 1: its last 0 becomes 1, and bits 1 behind that one become 0.
            int last = code.lastIndexOf('0');
            code = code.isEmpty() ? zeros : code.substring(0, last) + "1" + "0".repeat(code.length() - last - 1) + zeros;
            if (!code.contains("0")) {
                return null;
            }
            given.add(code);
        }
        return given;
    }

    private int side() {
        int sideAt = at;
        int side = two();
        want(side >= 1 && side <= 64, 5, sideAt);
        return side;
    }

    private void frame(int length, int lengthAt) {
        one(8);
        int height = side();
        int width = side();
        int count = one(1, 3);
        want(length == 8 + 3 * count, 4, lengthAt);
        int[][] factors = new int[count][];
        for (int i = 0; i < count; i++) {
            int name = next();
            want(layers.stream().noneMatch(layer -> layer.name == name), 5, at - 1);
            int both = one(0x11, 0x12, 0x21, 0x22);
            factors[i] = new int[] {both >> 4, both & 15};
            layers.add(new Layer(name, one(0, 1, 2, 3)));
        }
        picture = new Plain(width, height, factors);
        tablesUsed = new int[count][];
    }

    private void scan(int length, int lengthAt) {
        int countAt = at;
        int count = next();
        want(count >= 1 && count <= layers.size(), 5, countAt);
        want(length == 6 + 2 * count, 4, lengthAt);
        int[] order = new int[count];
        int[] numbers = new int[layers.size()];
        int before = -1;
        int blocks = 0;
        for (int i = 0; i < count; i++) {
            int name = next();
            int which = layers.stream().map(Layer::name).toList().indexOf(name);
            want(which > before && !scanned.contains(which), 5, at - 1);
            int[] table = tables.get(layers.get(which).table);
            want(table != null, 6, at - 1);
            numbers[which] = one(0, 1, 16, 17);
            want(codes.containsKey(numbers[which] >> 4) && codes.containsKey(16 + (numbers[which] & 15)), 6, at - 1);
            tablesUsed[which] = table.clone();
            order[i] = which;
            before = which;
            blocks += picture.factors[which][0] * picture.factors[which][1];
        }
        one(0);
        one(63);
        one(0);
        want(count == 1 || blocks <= 10, 6, countAt);
        for (int which : order) {
            scanned.add(which);
        }
        data(picture.units(order), numbers);
    }

    private void data(List<List<int[]>> units, int[] numbers) {
        takeBits();
        int[] first = new int[3];
        int marks = 0;
        for (int i = 0; i < units.size(); i++) {
            if (interval != 0 && i != 0 && i % interval == 0) {
                dropBits();
                want(mark() == 208 + marks, 3, at - 1);
                marks = (marks + 1) % 8;
                takeBits();
                first = new int[3];
            }
            for (int[] pair : units.get(i)) {
                first[pair[0]] = block(picture.levels[pair[0]][pair[1]], first[pair[0]], numbers[pair[0]]);
            }
        }
        dropBits();
    }

    /** All bits up to the next MARK or the TAPE's end. */
    private void takeBits() {
        bits.clear();
        bitsUsed = 0;
        for (int i = at; i < row.length; i++) {
            boolean full = row[i] == 255;
            if (full && (i + 1 == row.length || row[i + 1] != 0)) {
                return;
            }
            for (char bit : Rows.binary(row[i], 8).toCharArray()) {
                bits.add(new Bit(bit, i));
            }
            i += full ? 1 : 0;
        }
    }

    private void dropBits() {
        at = bits.get(bitsUsed - 1).at + 1;
        if (row[at - 1] == 255) {
            at++;
        }
    }

    private char bit() {
        if (bitsUsed == bits.size()) {
            int end = bits.isEmpty() ? at : bits.get(bits.size() - 1).at + 1;
            if (!bits.isEmpty() && row[end - 1] == 255) {
                end++;
            }
            // A byte 255 that is the TAPE's last one may still have a 0 to come.
            want(end + 1 < row.length, 1, row.length);
            throw new Fault(7, end);
        }
        return bits.get(bitsUsed++).bit;
    }

    private int symbol(Map<String, Integer> told) {
        StringBuilder code = new StringBuilder().append(bit());
        symbolAt = bits.get(bitsUsed - 1).at;
        while (!told.containsKey(code.toString())) {
            want(code.length() < 16, 7, symbolAt);
            code.append(bit());
        }
        return told.get(code.toString());
    }

    private int number(int n) {
        if (n == 0) {
            return 0;
        }
        StringBuilder text = new StringBuilder();
        for (int i = 0; i < n; i++) {
            text.append(bit());
        }
        int value = Integer.parseInt(text.toString(), 2);
        return text.charAt(0) == '1' ? value : value - ((1 << n) - 1);
    }

    private int block(int[] levels, int before, int numbers) {
        int first = before + number(symbol(codes.get(numbers >> 4)));
        want(first >= -2047 && first <= 2047, 7, symbolAt);
        levels[0] = first;
        int k = 1;
        while (k < 64) {
            int symbol = symbol(codes.get(16 + (numbers & 15)));
            if (symbol == 0) {
                break;
            }
            if (symbol == 240) {
                k += 16;
                want(k <= 64, 7, symbolAt);
            } else {
                k += symbol >> 4;
                want(k <= 63, 7, symbolAt);
                levels[k] = number(symbol & 15);
                k++;
            }
        }
        return first;
    }
}
