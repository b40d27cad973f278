import java.util.ArrayList;
import java.util.Collections;
import java.util.Comparator;
import java.util.List;
import java.util.Map;
import java.util.TreeMap;

/** What the document tells, written down once more in its plainest form, to be compared with the class. */
final class Plain {
    private static final int[] T = {4096, 4017, 3784, 3406, 2896, 2276, 1567, 799, 0};

    final int width;
    final int height;
    /** By layer: factors; levels by block of the GRID and place in THE ROW. */
    final int[][] factors;
    final int[][][] levels;
    final Rows row = new Rows();

    Plain(int width, int height, int[][] factors) {
        this.width = width;
        this.height = height;
        this.factors = factors;
        levels = new int[factors.length][][];
        for (int layer = 0; layer < factors.length; layer++) {
            levels[layer] = new int[gridWide(layer) * gridHigh(layer)][64];
        }
    }

    static int t(int k) {
        return k > 16 ? t(32 - k) : k > 8 ? -t(16 - k) : T[k];
    }

    static int w(int x, int u) {
        return u == 0 ? 2896 : t((2 * x + 1) * u % 32);
    }

    static int[][] weights(int[][] s) {
        int[][] f = new int[8][8];
        for (int v = 0; v < 8; v++) {
            for (int u = 0; u < 8; u++) {
                long outer = 65536;
                for (int y = 0; y < 8; y++) {
                    long inner = 256;
                    for (int x = 0; x < 8; x++) {
                        inner += w(x, u) * (s[y][x] - 128L);
                    }
                    outer += w(y, v) * Math.floorDiv(inner, 512L);
                }
                f[v][u] = (int) Math.floorDiv(outer, 131072L);
            }
        }
        return f;
    }

    static int[][] samples(int[][] f) {
        int[][] s = new int[8][8];
        for (int y = 0; y < 8; y++) {
            for (int x = 0; x < 8; x++) {
                long outer = 65536;
                for (int v = 0; v < 8; v++) {
                    long inner = 256;
                    for (int u = 0; u < 8; u++) {
                        inner += (long) w(x, u) * f[v][u];
                    }
                    outer += w(y, v) * Math.floorDiv(inner, 512L);
                }
                s[y][x] = (int) Math.max(0, Math.min(255, 128 + Math.floorDiv(outer, 131072L)));
            }
        }
        return s;
    }

    /** THE ROW: pairs of row and column. */
    static List<int[]> slants() {
        List<int[]> order = new ArrayList<>();
        for (int d = 0; d <= 14; d++) {
            List<int[]> slant = new ArrayList<>();
            for (int row = 0; row < 8; row++) {
                if (d - row >= 0 && d - row < 8) {
                    slant.add(new int[] {row, d - row});
                }
            }
            if (d % 2 == 0) {
                Collections.reverse(slant);
            }
            order.addAll(slant);
        }
        return order;
    }

    static int rounded(int f, int e) {
        int level = (Math.abs(f) + e / 2) / e;
        return f < 0 ? -level : level;
    }

    static int[] kinds(int r, int g, int b) {
        return new int[] {
            Math.min(255, Math.floorDiv(19595 * r + 38470 * g + 7471 * b + 32768, 65536)),
            Math.min(255, 128 + Math.floorDiv(-11059 * r - 21709 * g + 32768 * b + 32768, 65536)),
            Math.min(255, 128 + Math.floorDiv(32768 * r - 27439 * g - 5329 * b + 32768, 65536))};
    }

    static int[] colours(int y, int second, int third) {
        int p = second - 128;
        int q = third - 128;
        int[] colours = {
            y + Math.floorDiv(91881 * q + 32768, 65536),
            y - Math.floorDiv(22554 * p + 46802 * q + 32768, 65536),
            y + Math.floorDiv(116130 * p + 32768, 65536)};
        for (int i = 0; i < 3; i++) {
            colours[i] = Math.max(0, Math.min(255, colours[i]));
        }
        return colours;
    }

    int most(int which) {
        int most = 1;
        for (int[] pair : factors) {
            most = Math.max(most, pair[which]);
        }
        return most;
    }

    static int upward(int n, int by) {
        return (int) Math.ceil((double) n / by);
    }

    int layerWide(int layer) {
        return upward(width * factors[layer][0], most(0));
    }

    int layerHigh(int layer) {
        return upward(height * factors[layer][1], most(1));
    }

    int gridWide(int layer) {
        return factors[layer][0] * upward(width, 8 * most(0));
    }

    int gridHigh(int layer) {
        return factors[layer][1] * upward(height, 8 * most(1));
    }

    /** The UNITS of a scan of some layers: each a list of pairs of layer and block. */
    List<List<int[]>> units(int... layers) {
        List<List<int[]>> units = new ArrayList<>();
        if (layers.length == 1) {
            int layer = layers[0];
            for (int j = 0; 8 * j < layerHigh(layer); j++) {
                for (int i = 0; 8 * i < layerWide(layer); i++) {
                    units.add(List.of(new int[] {layer, j * gridWide(layer) + i}));
                }
            }
            return units;
        }
        for (int top = 0; top < height; top += 8 * most(1)) {
            for (int left = 0; left < width; left += 8 * most(0)) {
                List<int[]> unit = new ArrayList<>();
                for (int layer : layers) {
                    int a = factors[layer][0];
                    int d = factors[layer][1];
                    for (int j = 0; j < d; j++) {
                        for (int i = 0; i < a; i++) {
                            int down = top / (8 * most(1)) * d + j;
                            int across = left / (8 * most(0)) * a + i;
                            unit.add(new int[] {layer, down * gridWide(layer) + across});
                        }
                    }
                }
                units.add(unit);
            }
        }
        return units;
    }

    /** The samples of all planes that these levels and tables (of each layer, 64 entries by THE ROW) give. */
    int[][][] show(int[][] tables) {
        int[][][] seen = new int[factors.length][][];
        for (int layer = 0; layer < factors.length; layer++) {
            seen[layer] = showLayer(layer, tables[layer]);
        }
        int[][][] planes = new int[factors.length][height][width];
        for (int y = 0; y < height; y++) {
            for (int x = 0; x < width; x++) {
                int[] parts = new int[factors.length];
                for (int layer = 0; layer < parts.length; layer++) {
                    parts[layer] = seen[layer][y * factors[layer][1] / most(1)][x * factors[layer][0] / most(0)];
                }
                int[] shown = parts.length == 1 ? parts : colours(parts[0], parts[1], parts[2]);
                for (int plane = 0; plane < parts.length; plane++) {
                    planes[plane][y][x] = shown[plane];
                }
            }
        }
        return planes;
    }

    private int[][] showLayer(int layer, int[] table) {
        List<int[]> slants = slants();
        int[][] seen = new int[8 * gridHigh(layer)][8 * gridWide(layer)];
        for (int block = 0; block < levels[layer].length; block++) {
            int[][] f = new int[8][8];
            for (int k = 0; k < 64; k++) {
                f[slants.get(k)[0]][slants.get(k)[1]] = levels[layer][block][k] * table[k];
            }
            int[][] s = samples(f);
            for (int y = 0; y < 8; y++) {
                System.arraycopy(s[y], 0, seen[block / gridWide(layer) * 8 + y], block % gridWide(layer) * 8, 8);
            }
        }
        return seen;
    }

    private record Thing(int often, boolean two, int number, List<Integer> symbols) { }

    /** The LENGTHS of codes, 256 with them. */
    static Map<Integer, Integer> lengths(Map<Integer, Integer> often) {
        List<Thing> symbols = new ArrayList<>();
        symbols.add(new Thing(0, false, 256, List.of(256)));
        often.forEach((symbol, n) -> symbols.add(new Thing(n, false, symbol, List.of(symbol))));
        Comparator<Thing> order = Comparator.comparingInt(Thing::often).thenComparing(Thing::two)
                .thenComparingInt(Thing::number);
        List<Thing> line = new ArrayList<>(symbols);
        line.sort(order);
        for (int k = 2; k <= 16; k++) {
            List<Thing> next = new ArrayList<>(symbols);
            for (int i = 0; i + 1 < line.size(); i += 2) {
                List<Integer> both = new ArrayList<>(line.get(i).symbols);
                both.addAll(line.get(i + 1).symbols);
                next.add(new Thing(line.get(i).often + line.get(i + 1).often, true, i, both));
            }
            next.sort(order);
            line = next;
        }
        Map<Integer, Integer> lengths = new TreeMap<>();
        for (Thing thing : line.subList(0, 2 * symbols.size() - 2)) {
            thing.symbols.forEach(symbol -> lengths.merge(symbol, 1, Integer::sum));
        }
        return lengths;
    }

    /** A canvas (plane, row, column) packed: tables have 64 entries by rows. */
    static Plain pack(int[][][] canvas, int[][] tables, int across, int down, int interval) {
        int[][] factors = new int[canvas.length][];
        for (int layer = 0; layer < canvas.length; layer++) {
            factors[layer] = layer == 0 ? new int[] {across, down} : new int[] {1, 1};
        }
        Plain plain = new Plain(canvas[0][0].length, canvas[0].length, factors);
        int[] layers = canvas.length == 1 ? new int[] {0} : new int[] {0, 1, 2};
        for (List<int[]> unit : plain.units(layers)) {
            for (int[] pair : unit) {
                plain.levels[pair[0]][pair[1]] = plain.blockLevels(canvas, pair[0], pair[1], tables[pair[0] == 0 ? 0 : 1]);
            }
        }
        plain.write(tables, layers, interval);
        return plain;
    }

    private int layerSample(int[][][] canvas, int layer, int x, int y) {
        int wide = most(0) / factors[layer][0];
        int high = most(1) / factors[layer][1];
        int sum = 0;
        for (int j = 0; j < high; j++) {
            for (int i = 0; i < wide; i++) {
                int left = Math.min(width - 1, x * wide + i);
                int top = Math.min(height - 1, y * high + j);
                sum += canvas.length == 1 ? canvas[0][top][left]
                        : kinds(canvas[0][top][left], canvas[1][top][left], canvas[2][top][left])[layer];
            }
        }
        return Math.floorDiv(sum + wide * high / 2, wide * high);
    }

    private int[] blockLevels(int[][][] canvas, int layer, int block, int[] table) {
        int[][] s = new int[8][8];
        for (int y = 0; y < 8; y++) {
            for (int x = 0; x < 8; x++) {
                int left = Math.min(layerWide(layer) - 1, block % gridWide(layer) * 8 + x);
                int top = Math.min(layerHigh(layer) - 1, block / gridWide(layer) * 8 + y);
                s[y][x] = layerSample(canvas, layer, left, top);
            }
        }
        int[][] f = weights(s);
        int[] row = new int[64];
        for (int k = 0; k < 64; k++) {
            int v = slants().get(k)[0];
            int u = slants().get(k)[1];
            row[k] = rounded(f[v][u], table[8 * v + u]);
        }
        return row;
    }

    /** A symbol for a code (0, 1 starts, 2, 3 rests) with the number behind it; or a MARK, if the code is -1. */
    private record Step(int code, int symbol, int number) { }

    private List<Step> steps(int[] layers, int interval) {
        List<Step> steps = new ArrayList<>();
        int[] before = new int[3];
        List<List<int[]>> units = units(layers);
        for (int i = 0; i < units.size(); i++) {
            if (interval > 0 && i > 0 && i % interval == 0) {
                steps.add(new Step(-1, 208 + (i / interval - 1) % 8, 0));
                before = new int[3];
            }
            for (int[] pair : units.get(i)) {
                int layer = pair[0];
                int[] row = levels[layer][pair[1]];
                addSteps(steps, layer == 0 ? 0 : 1, row[0] - before[layer], row);
                before[layer] = row[0];
            }
        }
        return steps;
    }

    private static void addSteps(List<Step> steps, int kind, int more, int[] row) {
        steps.add(new Step(kind, Rows.bitsOf(more), more));
        int last = 63;
        while (last > 0 && row[last] == 0) {
            last--;
        }
        int zeros = 0;
        for (int k = 1; k <= last; k++) {
            if (row[k] != 0) {
                steps.add(new Step(2 + kind, 16 * zeros + Rows.bitsOf(row[k]), row[k]));
                zeros = 0;
            } else if (zeros == 15) {
                steps.add(new Step(2 + kind, 240, 0));
                zeros = 0;
            } else {
                zeros++;
            }
        }
        if (last < 63) {
            steps.add(new Step(2 + kind, 0, 0));
        }
    }

    private void write(int[][] tables, int[] layers, int interval) {
        int kinds = layers.length == 1 ? 1 : 2;
        row.mark(216).mark(219).two(2 + 65 * kinds);
        for (int kind = 0; kind < kinds; kind++) {
            row.add(kind);
            for (int[] place : slants()) {
                row.add(tables[kind][8 * place[0] + place[1]]);
            }
        }
        row.mark(192).two(8 + 3 * layers.length).add(8).two(height).two(width).add(layers.length);
        for (int layer : layers) {
            row.add(layer + 1, 16 * factors[layer][0] + factors[layer][1], layer == 0 ? 0 : 1);
        }
        List<Step> steps = steps(layers, interval);
        List<Map<Integer, String>> codes = writeCodes(steps, kinds);
        if (interval != 0) {
            row.interval(interval);
        }
        row.scan(kinds == 1 ? new int[] {1, 0} : new int[] {1, 0, 2, 17, 3, 17});
        for (Step step : steps) {
            if (step.code < 0) {
                row.fillByte('1').mark(step.symbol);
            } else {
                row.bits(codes.get(step.code).get(step.symbol)).bits(Rows.number(step.number));
            }
        }
        row.fillByte('1').mark(217);
    }

    /** Writes the section of CODES; answers each code's symbols with their bits, in the order of Step. */
    private List<Map<Integer, String>> writeCodes(List<Step> steps, int kinds) {
        List<Map<Integer, String>> codes = new ArrayList<>(Collections.nCopies(4, null));
        Rows section = new Rows();
        for (int kind = 0; kind < kinds; kind++) {
            for (int code = kind; code < 4; code += 2) {
                Map<Integer, Integer> often = new TreeMap<>();
                for (Step step : steps) {
                    if (step.code == code) {
                        often.merge(step.symbol, 1, Integer::sum);
                    }
                }
                codes.set(code, giveOut(section.add(16 * (code / 2) + kind), lengths(often)));
            }
        }
        row.mark(196).two(2 + section.size()).add(section.row());
        return codes;
    }

    private static Map<Integer, String> giveOut(Rows section, Map<Integer, Integer> lengths) {
        List<Integer> symbols = new ArrayList<>(lengths.keySet());
        symbols.sort(Comparator.comparingInt((Integer symbol) -> lengths.get(symbol)).thenComparing(symbol -> symbol));
        if (symbols.remove(symbols.size() - 1) != 256) {
            throw new IllegalStateException("256 is not the last one");
        }
        Map<Integer, String> bits = new TreeMap<>();
        int[] counts = new int[17];
        int code = -1;
        int length = 0;
        for (int symbol : symbols) {
            code = code + 1 << lengths.get(symbol) - length;
            length = lengths.get(symbol);
            counts[length]++;
            bits.put(symbol, Rows.binary(code, length));
        }
        for (int n = 1; n <= 16; n++) {
            section.add(counts[n]);
        }
        symbols.forEach(symbol -> section.add(symbol));
        return bits;
    }
}
