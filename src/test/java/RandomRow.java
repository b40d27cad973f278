import java.util.List;

/** A row that is right, made at will: sections, scans, factors, INTERVALS and levels; and what it tells. */
final class RandomRow {
    private static final int[] SIDES = {1, 5, 8, 9, 16, 17, 23, 32, 40, 41, 64};
    private static final int[][][] SCANS = {{{0, 1, 2}}, {{0}, {1}, {2}}, {{2}, {1}, {0}}, {{0, 1}, {2}}, {{1}, {0, 2}},
        {{1, 2}, {0}}, {{0}, {1, 2}}};

    final Plain due;
    /** Of each layer, by THE ROW. */
    final int[][] tables;
    final Rows row = new Rows();

    private final Scenes numbers;
    private final int[] names;
    private final int[] tableOf;

    /** Sides up to some most one: short rows have more of their bytes in sections. */
    RandomRow(int seed, int most) {
        numbers = new Scenes(seed);
        int layers = numbers.next(4) == 0 ? 1 : 3;
        int[][] factors = new int[layers][];
        for (int i = 0; i < layers; i++) {
            factors[i] = new int[] {1 + numbers.next(2), 1 + numbers.next(2)};
        }
        due = new Plain(side(most), side(most), factors);
        names = new int[layers];
        tableOf = new int[layers];
        tables = new int[layers][64];
        int first = numbers.next(256);
        for (int i = 0; i < layers; i++) {
            names[i] = first + 101 * i & 255;
            tableOf[i] = numbers.next(4);
            for (int k = 0; k < 64; k++) {
                tables[i][k] = 1 + numbers.next(numbers.next(6) == 0 ? 255 : 12);
            }
        }
        write();
    }

    private int side(int most) {
        return Math.min(most, SIDES[numbers.next(SIDES.length)]);
    }

    private void write() {
        row.mark(216);
        anything();
        int[] threes = new int[3 * names.length];
        for (int i = 0; i < names.length; i++) {
            threes[3 * i] = names[i];
            threes[3 * i + 1] = 16 * due.factors[i][0] + due.factors[i][1];
            threes[3 * i + 2] = tableOf[i];
        }
        row.frame(due.width, due.height, threes);
        int[][] scans = names.length == 1 ? new int[][] {{0}} : SCANS[numbers.next(SCANS.length)];
        for (int[] scan : scans) {
            if (scan.length > 1 && together(scan) > 10) {
                scans = SCANS[1];
            }
        }
        for (int[] scan : scans) {
            writeScan(scan);
        }
        anything();
        row.mark(217);
    }

    private int together(int[] scan) {
        int sum = 0;
        for (int layer : scan) {
            sum += due.factors[layer][0] * due.factors[layer][1];
        }
        return sum;
    }

    private void anything() {
        for (int i = numbers.next(3); i > 0; i--) {
            row.many(numbers.next(3), 255);
            int length = 2 + numbers.next(9);
            row.mark(numbers.next(5) == 0 ? 254 : 224 + numbers.next(16)).two(length).many(length - 2, numbers.next(2) * 255);
        }
    }

    private void writeScan(int[] layers) {
        int interval = numbers.next(2) == 0 ? 0 : 1 + numbers.next(11);
        int number = numbers.next(2);
        for (int layer : layers) {
            for (int other : layers) {
                if (tableOf[other] == tableOf[layer]) {
                    tables[other] = tables[layer];
                }
            }
            row.mark(219).two(67).add(tableOf[layer]).add(tables[layer]);
        }
        row.many(numbers.next(2), 255).interval(interval);
        anything();
        row.starts(number).rests(1 - number);
        int[] pairs = new int[2 * layers.length];
        for (int i = 0; i < layers.length; i++) {
            pairs[2 * i] = names[layers[i]];
            pairs[2 * i + 1] = 16 * number + 1 - number;
        }
        row.scan(pairs);
        List<List<int[]>> units = due.units(layers);
        int[] before = new int[3];
        for (int i = 0; i < units.size(); i++) {
            if (interval > 0 && i > 0 && i % interval == 0) {
                row.fillByte((char) ('0' + numbers.next(2))).many(numbers.next(3), 255).mark(208 + (i / interval - 1) % 8);
                before = new int[3];
            }
            for (int[] pair : units.get(i)) {
                int[] levels = due.levels[pair[0]][pair[1]];
                chooseLevels(levels);
                row.block(before[pair[0]], levels);
                before[pair[0]] = levels[0];
            }
        }
        row.fillByte((char) ('0' + numbers.next(2)));
    }

    private void chooseLevels(int[] levels) {
        levels[0] = numbers.next(9) == 0 ? numbers.next(2047) - 1023 : numbers.next(61) - 30;
        for (int k = 1 + numbers.next(6); k < 64; k += 1 + numbers.next(40)) {
            levels[k] = numbers.next(15) == 0 ? numbers.next(2047) - 1023 : numbers.next(13) - 6;
        }
    }
}
