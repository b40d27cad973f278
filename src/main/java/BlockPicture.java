import java.util.Arrays;

/**
 * Pictures packed block by block, and rows of bytes that tell pictures so. The numbered promises of the document say
 * what each call does; words in capitals there (TAPE, OUT, LEVEL, THE ROW, SCAN ..) are used here in the same sense.
 */
public final class BlockPicture {
    public static final int NONE = -1;

    private static final int MOST_TAPE = 32768;
    private static final int MOST_OUT = 65536;
    private static final int SIDE = 64;
    private static final int LAYER = SIDE * SIDE;
    private static final int MOST_LAYERS = 3;
    private static final int BLOCK = 64;
    private static final int BLOCKS = LAYER / BLOCK;
    private static final int MOST_BITS = 16;
    private static final int LONGEST_RUN = 240;

    private static final int MARK_CODES = 196;
    private static final int MARK_FRAME = 192;
    private static final int MARK_AGAIN = 208;
    private static final int MARK_FIRST = 216;
    private static final int MARK_LAST = 217;
    private static final int MARK_SCAN = 218;
    private static final int MARK_TABLES = 219;
    private static final int MARK_INTERVAL = 221;

    /** Where the levels of THE ROW stand in a block: 8 * row + column. */
    private static final int[] SLANTS = {
        0, 1, 8, 16, 9, 2, 3, 10, 17, 24, 32, 25, 18, 11, 4, 5,
        12, 19, 26, 33, 40, 48, 41, 34, 27, 20, 13, 6, 7, 14, 21, 28,
        35, 42, 49, 56, 57, 50, 43, 36, 29, 22, 15, 23, 30, 37, 44, 51,
        58, 59, 52, 45, 38, 31, 39, 46, 53, 60, 61, 54, 47, 55, 62, 63};

    private final Canvas canvas = new Canvas();
    private final int[] tables = new int[2 * BLOCK];
    /** These have all rows that their work needs, at their full lengths: calls make nothing but exceptions. */
    private final Packer packer = new Packer();
    private final Unpacker unpacker = new Unpacker();
    private final Row out = packer.out;
    private final Waves waves = packer.waves;
    private final Row tape = unpacker.reader.tape;
    private Picture picture = new Picture();
    private int place = NONE;

    public BlockPicture() {
        Arrays.fill(tables, 1);
    }

    public void canvas(int width, int height, int planes) throws IllegalArgumentException {
        if (!isWithin(width, 1, SIDE) || !isWithin(height, 1, SIDE) || planes != 1 && planes != MOST_LAYERS) {
            throw new IllegalArgumentException("a canvas is 1 .. 64 wide and high and has 1 or 3 planes");
        }
        canvas.begin(width, height, planes);
    }

    public void fill(int x, int y, int wide, int high, int c) throws IndexOutOfBoundsException {
        if (!canvas.holds(x, y, wide, high)) {
            throw new IndexOutOfBoundsException("the rectangle is not all on the canvas");
        }
        canvas.paint(x, y, wide, high, c, c);
    }

    public void slope(int x, int y, int wide, int high, int c, int d) throws IndexOutOfBoundsException {
        if (!canvas.holds(x, y, wide, high)) {
            throw new IndexOutOfBoundsException("the rectangle is not all on the canvas");
        }
        canvas.paint(x, y, wide, high, c, d);
    }

    public int at(int x, int y, int plane) throws IndexOutOfBoundsException {
        if (!canvas.holds(x, y, 1, 1) || !isWithin(plane, 0, canvas.planes - 1)) {
            throw new IndexOutOfBoundsException("the canvas has no such sample");
        }
        return canvas.samples[spot(plane, x, y)];
    }

    public void scale(int t, int a, int b) throws IllegalArgumentException {
        if (!isWithin(t, 0, 1) || !isWithin(a, -1000, 1000) || !isWithin(b, -1000, 1000)) {
            throw new IllegalArgumentException("tables are 0 and 1, a and b -1000 .. 1000");
        }
        for (int i = 0; i < BLOCK; i++) {
            tables[BLOCK * t + i] = clamp(a + b * (i / 8 + i % 8), 1, 255);
        }
    }

    public void entry(int t, int v, int u, int e) throws IndexOutOfBoundsException, IllegalArgumentException {
        if (!isWithin(v, 0, 7) || !isWithin(u, 0, 7)) {
            throw new IndexOutOfBoundsException("a table has rows and columns 0 .. 7");
        }
        if (!isWithin(t, 0, 1) || !isWithin(e, 1, 255)) {
            throw new IllegalArgumentException("tables are 0 and 1, entries 1 .. 255");
        }
        tables[BLOCK * t + 8 * v + u] = e;
    }

    public int pack(int across, int down, int interval) throws IllegalArgumentException {
        if (!isWithin(across, 1, 2) || !isWithin(down, 1, 2) || !isWithin(interval, 0, 65535)) {
            throw new IllegalArgumentException("factors are 1 or 2, the INTERVAL 0 .. 65535");
        }
        packer.makeLevels(canvas, tables, across, down);
        packer.makeCodes(interval);
        packer.write(tables, interval);
        return out.size;
    }

    public int size() {
        return out.size;
    }

    public int out(int i) throws IndexOutOfBoundsException {
        if (!out.has(i)) {
            throw new IndexOutOfBoundsException("OUT has no such byte");
        }
        return out.bytes[i];
    }

    public int feed(int a, int b, int c, int d, int e) throws IllegalStateException {
        if (tape.size + 20 > MOST_TAPE) {
            throw new IllegalStateException("there is no room on the TAPE");
        }
        tape.addFour(a);
        tape.addFour(b);
        tape.addFour(c);
        tape.addFour(d);
        tape.addFour(e);
        return tape.size;
    }

    public void end(int n) throws IllegalArgumentException {
        if (!isWithin(n, 0, tape.size)) {
            throw new IllegalArgumentException("the TAPE can't be cut there");
        }
        tape.size = n;
    }

    public int change(int i, int by) throws IndexOutOfBoundsException, IllegalArgumentException {
        if (!tape.has(i)) {
            throw new IndexOutOfBoundsException("the TAPE has no such byte");
        }
        if (!isWithin(by, 0, 255)) {
            throw new IllegalArgumentException("a byte is changed by 0 .. 255");
        }
        tape.bytes[i] ^= by;
        return tape.bytes[i];
    }

    public int turn() throws IllegalStateException {
        if (out.size > MOST_TAPE) {
            throw new IllegalStateException("OUT has more bytes than the TAPE has room for");
        }
        tape.size = 0;
        for (int i = 0; i < out.size; i++) {
            tape.add(out.bytes[i]);
        }
        return tape.size;
    }

    public int unpack() {
        try {
            unpacker.readRow();
        } catch (IllegalStateException e) {
            place = unpacker.reader.place;
            return unpacker.reader.fault;
        }
        picture = unpacker.handOver(picture);
        place = NONE;
        return 0;
    }

    public int place() {
        return place;
    }

    public int about(int what) throws IllegalArgumentException, IllegalStateException {
        if (!isWithin(what, 0, 2)) {
            throw new IllegalArgumentException("what is 0 .. 2");
        }
        if (!picture.told) {
            throw new IllegalStateException("there is no picture");
        }
        return what == 0 ? picture.width : what == 1 ? picture.height : picture.layers;
    }

    public int sample(int x, int y, int plane) throws IllegalStateException, IndexOutOfBoundsException {
        if (!picture.told) {
            throw new IllegalStateException("there is no picture");
        }
        if (!isWithin(x, 0, picture.width - 1) || !isWithin(y, 0, picture.height - 1)
                || !isWithin(plane, 0, picture.layers - 1)) {
            throw new IndexOutOfBoundsException("the picture has no such sample");
        }
        picture.draw(waves);
        return picture.colour(x, y, plane);
    }

    public int level(int which, int layer, int block, int k)
            throws IllegalArgumentException, IllegalStateException, IndexOutOfBoundsException {
        if (!isWithin(which, 0, 1)) {
            throw new IllegalArgumentException("which is 0 or 1");
        }
        Picture asked = which == 1 ? picture : packer.packed;
        if (!asked.told) {
            throw new IllegalStateException("nothing was packed, or there is no picture");
        }
        if (!asked.hasBlock(layer, block) || !isWithin(k, 0, BLOCK - 1)) {
            throw new IndexOutOfBoundsException("there is no such level");
        }
        return asked.levels[LAYER * layer + BLOCK * block + k];
    }

    public void take() throws IllegalStateException {
        if (!picture.told) {
            throw new IllegalStateException("there is no picture");
        }
        picture.draw(waves);
        canvas.begin(picture.width, picture.height, picture.layers);
        for (int plane = 0; plane < picture.layers; plane++) {
            for (int y = 0; y < picture.height; y++) {
                for (int x = 0; x < picture.width; x++) {
                    canvas.samples[spot(plane, x, y)] = picture.colour(x, y, plane);
                }
            }
        }
    }

    private static boolean isWithin(int n, int least, int most) {
        return n >= least && n <= most;
    }

    private static int clamp(int n, int least, int most) {
        return n < least ? least : n > most ? most : n;
    }

    /** Where a sample stands in rows of planes that all have room for the largest picture. */
    private static int spot(int plane, int x, int y) {
        return LAYER * plane + SIDE * y + x;
    }

    /** A row of bytes, with room for as many as it may ever have. */
    private static final class Row {
        private final int[] bytes;
        private int size;

        Row(int most) {
            bytes = new int[Math.max(0, most)];
        }

        boolean has(int i) {
            return i >= 0 && i < size;
        }

        void add(int value) {
            if (size < bytes.length) {
                bytes[size] = value & 255;
                size++;
            }
        }

        void addTwo(int value) {
            add(value >> 8);
            add(value);
        }

        void addFour(int value) {
            addTwo(value >> 16);
            addTwo(value);
        }
    }

    private static final class Canvas {
        private int width = 8;
        private int height = 8;
        private int planes = 1;
        private final int[] samples = new int[MOST_LAYERS * LAYER];

        void begin(int width, int height, int planes) {
            this.width = width;
            this.height = height;
            this.planes = planes;
            Arrays.fill(samples, 0);
        }

        boolean holds(int x, int y, int wide, int high) {
            // Subtracted, not added: sums of such numbers could wrap around.
            return x >= 0 && y >= 0 && wide >= 1 && high >= 1 && wide <= width - x && high <= height - y;
        }

        void paint(int x, int y, int wide, int high, int c, int d) {
            if (wide < 1) {
                return;
            }
            for (int plane = 0; plane < planes; plane++) {
                int shift = 8 * (planes - 1 - plane);
                int p = c >> shift & 255;
                int q = d >> shift & 255;
                for (int i = 0; i < wide; i++) {
                    int value = p + (q - p) * i / wide;
                    for (int j = 0; j < high; j++) {
                        samples[spot(plane, x + i, y + j)] = value;
                    }
                }
            }
        }

        /** The sample of one of the layers' kinds (COLOURS) at a place of the canvas. */
        int kind(int layer, int x, int y) {
            int first = samples[spot(0, x, y)];
            if (planes == 1) {
                return first;
            }
            int green = samples[spot(1, x, y)];
            int blue = samples[spot(2, x, y)];
            if (layer == 0) {
                return 19595 * first + 38470 * green + 7471 * blue + 32768 >> 16;
            }
            int sum = layer == 1
                    ? -11059 * first - 21709 * green + 32768 * blue
                    : 32768 * first - 27439 * green - 5329 * blue;
            return Math.min(255, 128 + (sum + 32768 >> 16));
        }
    }

    /** WAVES: samples into weights, and weights into samples. */
    private static final class Waves {
        private static final int[] QUARTER = {4096, 4017, 3784, 3406, 2896, 2276, 1567, 799, 0};

        /** W(x, u) at 8 * u + x. */
        private final int[] waves = new int[BLOCK];
        private final int[] samples = new int[BLOCK];
        private final int[] weights = new int[BLOCK];
        private final long[] halfway = new long[BLOCK];

        Waves() {
            for (int i = 0; i < BLOCK; i++) {
                int u = i / 8;
                waves[i] = u == 0 ? QUARTER[4] : wave((2 * (i % 8) + 1) * u % 32);
            }
        }

        private static int wave(int k) {
            int turned = k > 16 ? 32 - k : k;
            return turned > 8 ? -QUARTER[16 - turned] : QUARTER[turned];
        }

        void makeWeights() {
            for (int y = 0; y < 8; y++) {
                for (int u = 0; u < 8; u++) {
                    int sum = 256;
                    for (int x = 0; x < 8; x++) {
                        sum += waves[8 * u + x] * (samples[8 * y + x] - 128);
                    }
                    halfway[8 * y + u] = sum >> 9;
                }
            }
            for (int v = 0; v < 8; v++) {
                for (int u = 0; u < 8; u++) {
                    long sum = 65536;
                    for (int y = 0; y < 8; y++) {
                        sum += waves[8 * v + y] * halfway[8 * y + u];
                    }
                    weights[8 * v + u] = (int) (sum >> 17);
                }
            }
        }

        void makeSamples() {
            int rows = 0;
            for (int v = 0; v < 8; v++) {
                if (hasWeights(v)) {
                    makeRow(v);
                    rows = v + 1;
                } else {
                    Arrays.fill(halfway, 8 * v, 8 * v + 8, 0);
                }
            }
            for (int y = 0; y < 8; y++) {
                for (int x = 0; x < 8; x++) {
                    long sum = 65536;
                    for (int v = 0; v < rows; v++) {
                        sum += waves[8 * v + y] * halfway[8 * v + x];
                    }
                    samples[8 * y + x] = clamp(128 + (int) (sum >> 17), 0, 255);
                }
            }
        }

        private boolean hasWeights(int v) {
            boolean has = false;
            for (int u = 0; u < 8; u++) {
                has = has || weights[8 * v + u] != 0;
            }
            return has;
        }

        private void makeRow(int v) {
            for (int x = 0; x < 8; x++) {
                // Levels that were read may be so great that an int would wrap around here.
                long sum = 256;
                for (int u = 0; u < 8; u++) {
                    sum += (long) waves[8 * u + x] * weights[8 * v + u];
                }
                halfway[8 * v + x] = sum >> 9;
            }
        }
    }

    /** A picture as it is told: LAYERS with factors and the levels of their blocks; samples when they are asked for. */
    private static final class Picture {
        private int width = 1;
        private int height = 1;
        private int layers = 1;
        private final int[] across = {1, 1, 1};
        private final int[] down = {1, 1, 1};
        private int mostAcross = 1;
        private int mostDown = 1;
        private int stretchesAcross = 1;
        private int stretchesDown = 1;
        /** By layers: how wide and high they are, and how many blocks their GRIDS have across and in all. */
        private final int[] wide = new int[MOST_LAYERS];
        private final int[] high = new int[MOST_LAYERS];
        private final int[] gridWide = new int[MOST_LAYERS];
        private final int[] blocks = new int[MOST_LAYERS];
        private final int[] levels = new int[MOST_LAYERS * LAYER];
        /** Of each layer the table that it goes by, in the order of THE ROW. */
        private final int[] entries = new int[MOST_LAYERS * BLOCK];
        private final int[] samples = new int[MOST_LAYERS * LAYER];
        private boolean drawn;
        /** Whether it was ever packed or unpacked: else it is only room for one. */
        private boolean told;

        void begin(int width, int height, int layers) {
            this.width = width;
            this.height = height;
            this.layers = layers;
            mostAcross = 1;
            mostDown = 1;
            drawn = false;
            Arrays.fill(levels, 0);
        }

        void setFactors(int layer, int a, int d) {
            across[layer] = a;
            down[layer] = d;
            mostAcross = Math.max(mostAcross, a);
            mostDown = Math.max(mostDown, d);
        }

        /** To be called when all factors are set: sizes depend on the greatest ones. */
        void measure() {
            stretchesAcross = upward(width, 8 * mostAcross);
            stretchesDown = upward(height, 8 * mostDown);
            for (int layer = 0; layer < layers; layer++) {
                wide[layer] = upward(width * across[layer], mostAcross);
                high[layer] = upward(height * down[layer], mostDown);
                gridWide[layer] = across[layer] * stretchesAcross;
                blocks[layer] = gridWide[layer] * down[layer] * stretchesDown;
            }
        }

        private static int upward(int n, int by) {
            return by < 1 ? n : (n + by - 1) / by;
        }

        boolean hasBlock(int layer, int block) {
            return isWithin(layer, 0, layers - 1) && isWithin(block, 0, blocks[layer] - 1);
        }

        void draw(Waves waves) {
            if (drawn) {
                return;
            }
            for (int layer = 0; layer < layers; layer++) {
                for (int y = 0; y < high[layer]; y += 8) {
                    for (int x = 0; x < wide[layer]; x += 8) {
                        drawBlock(waves, layer, x, y);
                    }
                }
            }
            drawn = true;
        }

        private void drawBlock(Waves waves, int layer, int left, int top) {
            int first = LAYER * layer + BLOCK * (top / 8 * gridWide[layer] + left / 8);
            for (int k = 0; k < BLOCK; k++) {
                waves.weights[SLANTS[k]] = levels[first + k] * entries[BLOCK * layer + k];
            }
            waves.makeSamples();
            for (int i = 0; i < BLOCK; i++) {
                samples[spot(layer, left + i % 8, top + i / 8)] = waves.samples[i];
            }
        }

        private int layerSample(int layer, int x, int y) {
            int left = across[layer] < mostAcross ? x / 2 : x;
            int top = down[layer] < mostDown ? y / 2 : y;
            return samples[spot(layer, left, top)];
        }

        int colour(int x, int y, int plane) {
            int light = layerSample(0, x, y);
            if (layers == 1) {
                return light;
            }
            int p = layerSample(1, x, y) - 128;
            int q = layerSample(2, x, y) - 128;
            if (plane == 1) {
                return clamp(light - (22554 * p + 46802 * q + 32768 >> 16), 0, 255);
            }
            int more = plane == 0 ? 91881 * q : 116130 * p;
            return clamp(light + (more + 32768 >> 16), 0, 255);
        }
    }

    /** Which layers a SCAN has, with the codes of each, and its blocks in the order in which DATA tell them. */
    private static final class Scan {
        private int layers;
        private final int[] layer = new int[MOST_LAYERS];
        /** Numbers of codes, by the picture's layers. */
        private final int[] starts = new int[MOST_LAYERS];
        private final int[] rests = new int[MOST_LAYERS];
        private int units;
        private int perUnit;
        private int blocks;
        /** Each block as BLOCKS * layer + its number. */
        private final int[] order = new int[MOST_LAYERS * BLOCKS];

        void addLayer(int which, int start, int rest) {
            if (layers < MOST_LAYERS) {
                layer[layers] = which;
                starts[which] = start;
                rests[which] = rest;
                layers++;
            }
        }

        /** How many blocks a unit would have if several layers were told together. */
        int blocksTogether(Picture of) {
            int sum = 0;
            for (int i = 0; i < layers; i++) {
                sum += of.across[layer[i]] * of.down[layer[i]];
            }
            return sum;
        }

        void arrange(Picture of) {
            blocks = 0;
            if (layers == 1) {
                perUnit = 1;
                arrangeAlone(of, layer[0]);
            } else {
                perUnit = blocksTogether(of);
                arrangeTogether(of);
            }
            units = perUnit < 1 ? 0 : blocks / perUnit;
        }

        private void arrangeAlone(Picture of, int only) {
            for (int row = 0; 8 * row < of.high[only]; row++) {
                for (int column = 0; 8 * column < of.wide[only]; column++) {
                    addBlock(only, row * of.gridWide[only] + column);
                }
            }
        }

        private void arrangeTogether(Picture of) {
            for (int down = 0; down < of.stretchesDown; down++) {
                for (int across = 0; across < of.stretchesAcross; across++) {
                    for (int i = 0; i < layers; i++) {
                        addStretch(of, layer[i], across, down);
                    }
                }
            }
        }

        private void addStretch(Picture of, int which, int across, int down) {
            int left = across * of.across[which];
            int top = down * of.down[which];
            for (int j = 0; j < of.down[which]; j++) {
                for (int i = 0; i < of.across[which]; i++) {
                    addBlock(which, (top + j) * of.gridWide[which] + left + i);
                }
            }
        }

        private void addBlock(int which, int block) {
            if (blocks < order.length) {
                order[blocks] = BLOCKS * which + block;
                blocks++;
            }
        }
    }

    /** CODES as a packed row tells them, for reading. */
    private static final class Codes {
        private boolean told;
        /** By how many bits: how many codes there are, the first one, and which symbol is that one's. */
        private final int[] counts = new int[MOST_BITS + 1];
        private final int[] firstCodes = new int[MOST_BITS + 1];
        private final int[] firstSymbols = new int[MOST_BITS + 1];
        private final int[] symbols = new int[256];
        private int size;

        /** Gives codes out by the counts; false if there are too many. */
        boolean giveOut() {
            int code = 0;
            boolean fit = true;
            size = 0;
            for (int n = 1; n <= MOST_BITS && fit; n++) {
                firstCodes[n] = code;
                firstSymbols[n] = size;
                code += counts[n];
                size += counts[n];
                fit = size <= symbols.length && code < 1 << n;
                code *= 2;
            }
            return fit;
        }

        /** The symbol of a code of n bits, or NONE. */
        int symbolOf(int code, int n) {
            int i = code - firstCodes[n];
            return i >= 0 && i < counts[n] ? symbols[firstSymbols[n] + i] : NONE;
        }
    }

    /**
     * Reads the TAPE: bytes, MARKS and bits. A FAULT is kept here, and thrown as an IllegalStateException, so that all
     * reading ends at once; unpack() catches it.
     */
    private static final class Reader {
        private final Row tape = new Row(MOST_TAPE);
        private int at;
        private int held;
        private int heldAt;
        private int bitsLeft;
        private int symbolAt;
        private int fault;
        private int place;

        void fail(int fault, int place) {
            this.fault = fault;
            this.place = place;
            throw new IllegalStateException("the TAPE tells no picture");
        }

        int read() {
            if (at >= tape.size) {
                fault = 1;
                place = tape.size;
                throw new IllegalStateException("the TAPE ends too early");
            }
            int value = tape.bytes[at];
            at++;
            return value;
        }

        int readTwo() {
            int high = read();
            return 256 * high + read();
        }

        /** This may go beyond the TAPE's end: more bytes must follow, and the next read() fails then. */
        void skip(int n) {
            at += n;
        }

        int readMark() {
            if (read() != 255) {
                fail(2, at - 1);
            }
            int mark = read();
            for (int i = 0; mark == 255 && i < MOST_TAPE; i++) {
                mark = read();
            }
            return mark;
        }

        void dropBits() {
            bitsLeft = 0;
        }

        int readBit() {
            if (bitsLeft == 0) {
                heldAt = at;
                held = read();
                if (held == 255 && read() != 0) {
                    fail(7, heldAt);
                }
                bitsLeft = 8;
            }
            bitsLeft--;
            return held >> bitsLeft & 1;
        }

        int readSymbol(Codes codes) {
            int code = readBit();
            symbolAt = heldAt;
            int symbol = codes.symbolOf(code, 1);
            for (int n = 2; n <= MOST_BITS && symbol == NONE; n++) {
                code = 2 * code + readBit();
                symbol = codes.symbolOf(code, n);
            }
            if (symbol == NONE) {
                fail(7, symbolAt);
            }
            return symbol;
        }

        int readNumber(int n) {
            int value = 0;
            for (int i = 0; i < n; i++) {
                value = 2 * value + readBit();
            }
            return 2 * value < 1 << n ? value - (1 << n) + 1 : value;
        }
    }

    /** Reads A PACKED ROW from the TAPE into a picture of its own, which is handed over when all of it was right. */
    private static final class Unpacker {
        private final Reader reader = new Reader();
        private Picture made = new Picture();
        private final Scan scan = new Scan();
        /** In the order of THE ROW, as they are told. */
        private final int[] tables = new int[4 * BLOCK];
        private final boolean[] tableTold = new boolean[4];
        /** Starts 0 and 1, rests 0 and 1. */
        private final Codes[] codes = {new Codes(), new Codes(), new Codes(), new Codes()};
        private boolean framed;
        private final int[] names = new int[MOST_LAYERS];
        private final int[] tableOf = new int[MOST_LAYERS];
        private final boolean[] scanned = new boolean[MOST_LAYERS];
        private final int[] before = new int[MOST_LAYERS];
        private int interval;
        private int lengthAt;
        private int length;

        /** Gives the picture that was read, and keeps the one before it, to be used again. */
        Picture handOver(Picture old) {
            Picture done = made;
            done.told = true;
            made = old;
            return done;
        }

        void readRow() {
            begin();
            if (reader.readMark() != MARK_FIRST) {
                reader.fail(3, reader.at - 1);
            }
            boolean more = true;
            for (int i = 0; more && i < MOST_TAPE; i++) {
                int mark = reader.readMark();
                more = mark != MARK_LAST;
                if (!canCome(mark)) {
                    reader.fail(3, reader.at - 1);
                }
                if (more) {
                    readSection(mark);
                }
                if (mark == MARK_SCAN) {
                    readData();
                }
            }
            if (reader.tape.has(reader.at)) {
                reader.fail(8, reader.at);
            }
        }

        private void begin() {
            reader.at = 0;
            framed = false;
            interval = 0;
            for (int i = 0; i < 4; i++) {
                tableTold[i] = false;
                codes[i].told = false;
            }
        }

        private boolean canCome(int mark) {
            switch (mark) {
                case MARK_FRAME:
                    return !framed;
                case MARK_SCAN:
                    return framed;
                case MARK_LAST:
                    return framed && allScanned();
                case MARK_TABLES:
                case MARK_CODES:
                case MARK_INTERVAL:
                case 254:
                    return true;
                default:
                    return mark >= 224 && mark <= 239;
            }
        }

        private boolean allScanned() {
            boolean all = true;
            for (int i = 0; i < made.layers; i++) {
                all = all && scanned[i];
            }
            return all;
        }

        private void readSection(int mark) {
            lengthAt = reader.at;
            length = reader.readTwo();
            if (mark == MARK_FRAME) {
                readFrame();
            } else if (mark == MARK_SCAN) {
                readScan();
            } else if (mark == MARK_INTERVAL) {
                wantLength(length == 4);
                interval = reader.readTwo();
            } else if (mark == MARK_TABLES || mark == MARK_CODES) {
                wantLength(length > 2);
                readParts(mark);
            } else {
                wantLength(length >= 2);
                reader.skip(length - 2);
            }
        }

        private void wantLength(boolean right) {
            if (!right) {
                reader.fail(4, lengthAt);
            }
        }

        /** Reads a byte that must be from least to most. */
        private int readWithin(int least, int most) {
            int value = reader.read();
            if (!isWithin(value, least, most)) {
                reader.fail(5, reader.at - 1);
            }
            return value;
        }

        private void readParts(int mark) {
            for (int i = 0; reader.at < lengthAt + length && i < MOST_TAPE; i++) {
                if (mark == MARK_TABLES) {
                    readTable();
                } else {
                    readCodes();
                }
            }
        }

        /** A section's length is looked at before each byte: at its end also when the TAPE ends there. */
        private void wantMore() {
            if (reader.at >= lengthAt + length) {
                reader.fail(4, lengthAt);
            }
        }

        private void readTable() {
            int table = readWithin(0, 3);
            for (int k = 0; k < BLOCK; k++) {
                wantMore();
                tables[BLOCK * table + k] = readWithin(1, 255);
            }
            tableTold[table] = true;
        }

        private void readCodes() {
            int kind = readWithin(0, 17);
            if (kind % 16 > 1) {
                reader.fail(5, reader.at - 1);
            }
            Codes told = codes[kind / 16 * 2 + kind % 16];
            int countsAt = reader.at;
            for (int n = 1; n <= MOST_BITS; n++) {
                wantMore();
                told.counts[n] = reader.read();
            }
            if (!told.giveOut()) {
                reader.fail(5, countsAt);
            }
            for (int i = 0; i < told.size; i++) {
                wantMore();
                int symbol = reader.read();
                if (kind < 16 ? symbol > 11 : !isForRests(symbol)) {
                    reader.fail(5, reader.at - 1);
                }
                told.symbols[i] = symbol;
            }
            told.told = true;
        }

        private static boolean isForRests(int symbol) {
            return symbol == 0 || symbol == LONGEST_RUN || isWithin(symbol % 16, 1, 10);
        }

        private void readFrame() {
            readWithin(8, 8);
            int height = readSide();
            int width = readSide();
            int layers = readWithin(1, MOST_LAYERS);
            if (layers == 2) {
                reader.fail(5, reader.at - 1);
            }
            wantLength(length == 8 + 3 * layers);
            made.begin(width, height, layers);
            for (int i = 0; i < layers; i++) {
                readFrameLayer(i);
            }
            made.measure();
            framed = true;
        }

        private int readSide() {
            int side = reader.readTwo();
            if (!isWithin(side, 1, SIDE)) {
                reader.fail(5, reader.at - 2);
            }
            return side;
        }

        private void readFrameLayer(int layer) {
            int name = reader.read();
            for (int i = 0; i < layer; i++) {
                if (names[i] == name) {
                    reader.fail(5, reader.at - 1);
                }
            }
            int factors = reader.read();
            if (!isWithin(factors / 16, 1, 2) || !isWithin(factors % 16, 1, 2)) {
                reader.fail(5, reader.at - 1);
            }
            names[layer] = name;
            made.setFactors(layer, factors / 16, factors % 16);
            tableOf[layer] = readWithin(0, 3);
            scanned[layer] = false;
        }

        private void readScan() {
            int layersAt = reader.at;
            int layers = readWithin(1, made.layers);
            wantLength(length == 6 + 2 * layers);
            scan.layers = 0;
            int next = 0;
            for (int i = 0; i < layers; i++) {
                next = readScanLayer(next) + 1;
            }
            readWithin(0, 0);
            readWithin(63, 63);
            readWithin(0, 0);
            if (layers > 1 && scan.blocksTogether(made) > 10) {
                reader.fail(6, layersAt);
            }
            scan.arrange(made);
        }

        /** Reads a layer of a scan, which is none before the one told; answers which it is. */
        private int readScanLayer(int least) {
            int name = reader.read();
            int layer = NONE;
            for (int i = least; i < made.layers; i++) {
                if (names[i] == name) {
                    layer = i;
                }
            }
            if (layer == NONE || scanned[layer]) {
                reader.fail(5, reader.at - 1);
                return least;
            }
            int table = tableOf[layer];
            if (!tableTold[table]) {
                reader.fail(6, reader.at - 1);
            }
            // The table may be told anew before the picture is drawn.
            System.arraycopy(tables, BLOCK * table, made.entries, BLOCK * layer, BLOCK);
            int numbers = readWithin(0, 17);
            if (numbers % 16 > 1) {
                reader.fail(5, reader.at - 1);
            }
            if (!codes[numbers / 16].told || !codes[2 + numbers % 16].told) {
                reader.fail(6, reader.at - 1);
            }
            scan.addLayer(layer, numbers / 16, 2 + numbers % 16);
            scanned[layer] = true;
            return layer;
        }

        private void readData() {
            reader.dropBits();
            Arrays.fill(before, 0);
            int marks = 0;
            for (int unit = 0; unit < scan.units; unit++) {
                if (interval > 0 && unit > 0 && unit % interval == 0) {
                    readAgain(MARK_AGAIN + marks % 8);
                    marks++;
                }
                for (int i = 0; i < scan.perUnit; i++) {
                    readBlock(scan.order[scan.perUnit * unit + i]);
                }
            }
        }

        private void readAgain(int due) {
            reader.dropBits();
            if (reader.readMark() != due) {
                reader.fail(3, reader.at - 1);
            }
            Arrays.fill(before, 0);
        }

        private void readBlock(int block) {
            int layer = block / BLOCKS;
            int first = BLOCK * block;
            int bits = reader.readSymbol(codes[scan.starts[layer]]);
            before[layer] += reader.readNumber(bits);
            if (!isWithin(before[layer], -2047, 2047)) {
                reader.fail(7, reader.symbolAt);
            }
            made.levels[first] = before[layer];
            Codes rests = codes[scan.rests[layer]];
            int symbol = NONE;
            for (int k = 1; k < BLOCK && symbol != 0; k++) {
                symbol = reader.readSymbol(rests);
                // 240 is 15 more here and 1 more by the loop, so that k at most 64 behind it needs no test of its own.
                k += symbol / 16;
                if (k >= BLOCK) {
                    reader.fail(7, reader.symbolAt);
                } else if (symbol % 16 > 0) {
                    made.levels[first + k] = reader.readNumber(symbol % 16);
                }
            }
        }
    }

    /** CODES made for a picture: how often each symbol comes, and then its code. */
    private static final class OwnCodes {
        /** A symbol that never comes, so that no other one gets bits 1 alone. */
        private static final int NEVER = 256;

        private final int[] often = new int[NEVER + 1];
        private final int[] lengths = new int[NEVER + 1];
        private final int[] codes = new int[NEVER];
        /** Symbols by their codes, and how many have each length. */
        private final int[] order = new int[NEVER];
        private int size;
        private final int[] counts = new int[MOST_BITS + 1];

        void begin() {
            Arrays.fill(often, 0);
            Arrays.fill(lengths, 0);
        }

        void giveOut() {
            int code = 0;
            size = 0;
            for (int n = 1; n <= MOST_BITS; n++) {
                int shorter = size;
                for (int symbol = 0; symbol < NEVER; symbol++) {
                    if (lengths[symbol] == n) {
                        codes[symbol] = code;
                        order[size] = symbol;
                        code++;
                        size++;
                    }
                }
                counts[n] = size - shorter;
                code *= 2;
            }
        }
    }

    /** The lines from which the LENGTHS of codes come. */
    private static final class Lines {
        private static final int MOST_SYMBOLS = OwnCodes.NEVER + 1;
        private static final int MOST_THINGS = 2 * MOST_SYMBOLS;

        private final int[] symbols = new int[MOST_SYMBOLS];
        private int count;
        /** Of each line (of the first one none) which things are twos; how often they come only of the latest line. */
        private final boolean[] twos = new boolean[MOST_BITS * MOST_THINGS];
        private int[] latest = new int[MOST_THINGS];
        private int[] next = new int[MOST_THINGS];

        void setLengths(OwnCodes own) {
            sortSymbols(own.often);
            int things = count;
            for (int i = 0; i < count; i++) {
                latest[i] = own.often[symbols[i]];
            }
            for (int line = 1; line < MOST_BITS; line++) {
                things = makeLine(line, things / 2, own.often);
            }
            int taken = 2 * count - 2;
            for (int line = MOST_BITS - 1; line >= 0; line--) {
                taken = 2 * takeThings(line, taken, own.lengths);
            }
        }

        private void sortSymbols(int[] often) {
            count = 0;
            for (int symbol = 0; symbol < MOST_SYMBOLS; symbol++) {
                if (often[symbol] > 0 || symbol == OwnCodes.NEVER) {
                    int i = count;
                    while (i > 0 && often[symbols[i - 1]] > often[symbol]) {
                        symbols[i] = symbols[i - 1];
                        i--;
                    }
                    symbols[i] = symbol;
                    count++;
                }
            }
        }

        /** Makes a line of the symbols and of twos of the line before it; answers how many things it has. */
        private int makeLine(int line, int pairs, int[] often) {
            int single = 0;
            int pair = 0;
            for (int i = 0; i < count + pairs; i++) {
                int both = pair < pairs ? latest[2 * pair] + latest[2 * pair + 1] : 0;
                boolean two = single == count || pair < pairs && both < often[symbols[single]];
                twos[MOST_THINGS * line + i] = two;
                if (two) {
                    next[i] = both;
                    pair++;
                } else {
                    next[i] = often[symbols[single]];
                    single++;
                }
            }
            int[] spare = latest;
            latest = next;
            next = spare;
            return count + pairs;
        }

        /** Takes the first things of a line: its symbols get a bit more; answers how many are twos. */
        private int takeThings(int line, int taken, int[] lengths) {
            int pairs = 0;
            // No line is longer or has more symbols: looked at only so that no index can go beyond.
            for (int i = 0; i < taken && i < MOST_THINGS; i++) {
                if (twos[MOST_THINGS * line + i]) {
                    pairs++;
                } else if (i - pairs < count) {
                    lengths[symbols[i - pairs]]++;
                }
            }
            return pairs;
        }
    }

    /** PACKING: makes levels of the canvas, and writes them to OUT. */
    private static final class Packer {
        private final Row out = new Row(MOST_OUT);
        private final Waves waves = new Waves();
        private final Picture packed = new Picture();
        private final Scan scan = new Scan();
        private final Lines lines = new Lines();
        private final OwnCodes[] starts = {new OwnCodes(), new OwnCodes()};
        private final OwnCodes[] rests = {new OwnCodes(), new OwnCodes()};
        private final int[] before = new int[MOST_LAYERS];
        /** How many tables, codes for starts and codes for rests there are. */
        private int kinds;
        /** Symbols are counted before codes can be made of them: the same walk over the blocks does both. */
        private boolean counting;
        private int held;
        private int heldBits;

        void makeLevels(Canvas canvas, int[] tables, int across, int down) {
            kinds = canvas.planes == 1 ? 1 : 2;
            packed.begin(canvas.width, canvas.height, canvas.planes);
            scan.layers = 0;
            for (int layer = 0; layer < packed.layers; layer++) {
                packed.setFactors(layer, layer == 0 ? across : 1, layer == 0 ? down : 1);
                int kind = kindOf(layer);
                scan.addLayer(layer, kind, kind);
            }
            packed.measure();
            packed.told = true;
            scan.arrange(packed);
            for (int layer = 0; layer < packed.layers; layer++) {
                makeLayer(canvas, layer);
            }
            for (int i = 0; i < scan.blocks; i++) {
                makeBlock(scan.order[i], tables);
            }
        }

        private static int kindOf(int layer) {
            return layer == 0 ? 0 : 1;
        }

        private void makeLayer(Canvas canvas, int layer) {
            int wide = packed.across[layer] < packed.mostAcross ? 2 : 1;
            int high = packed.down[layer] < packed.mostDown ? 2 : 1;
            for (int y = 0; y < packed.high[layer]; y++) {
                for (int x = 0; x < packed.wide[layer]; x++) {
                    int sum = wide * high / 2;
                    for (int i = 0; i < wide * high; i++) {
                        sum += canvas.kind(layer, Math.min(canvas.width - 1, wide * x + i % wide),
                                Math.min(canvas.height - 1, high * y + i / wide));
                    }
                    packed.samples[spot(layer, x, y)] = sum / (wide * high);
                }
            }
        }

        private void makeBlock(int block, int[] tables) {
            int layer = block / BLOCKS;
            int gridWide = Math.max(1, packed.gridWide[layer]);
            int left = block % BLOCKS % gridWide * 8;
            int top = block % BLOCKS / gridWide * 8;
            int lastX = packed.wide[layer] - 1;
            int lastY = packed.high[layer] - 1;
            for (int i = 0; i < BLOCK; i++) {
                int x = Math.min(lastX, left + i % 8);
                int y = Math.min(lastY, top + i / 8);
                waves.samples[i] = packed.samples[spot(layer, x, y)];
            }
            waves.makeWeights();
            for (int k = 0; k < BLOCK; k++) {
                int weight = waves.weights[SLANTS[k]];
                int by = Math.max(1, tables[BLOCK * kindOf(layer) + SLANTS[k]]);
                int level = (Math.abs(weight) + by / 2) / by;
                packed.levels[BLOCK * block + k] = weight < 0 ? -level : level;
            }
        }

        void makeCodes(int interval) {
            for (int kind = 0; kind < kinds; kind++) {
                starts[kind].begin();
                rests[kind].begin();
            }
            counting = true;
            writeData(interval);
            counting = false;
            for (int kind = 0; kind < kinds; kind++) {
                lines.setLengths(starts[kind]);
                starts[kind].giveOut();
                lines.setLengths(rests[kind]);
                rests[kind].giveOut();
            }
        }

        void write(int[] tables, int interval) {
            out.size = 0;
            addMark(MARK_FIRST);
            writeTables(tables);
            writeFrame();
            writeCodes();
            if (interval > 0) {
                addMark(MARK_INTERVAL);
                out.addTwo(4);
                out.addTwo(interval);
            }
            writeScan();
            writeData(interval);
            addMark(MARK_LAST);
        }

        private void addMark(int mark) {
            out.add(255);
            out.add(mark);
        }

        private void writeTables(int[] tables) {
            addMark(MARK_TABLES);
            out.addTwo(2 + (1 + BLOCK) * kinds);
            for (int kind = 0; kind < kinds; kind++) {
                out.add(kind);
                for (int k = 0; k < BLOCK; k++) {
                    out.add(tables[BLOCK * kind + SLANTS[k]]);
                }
            }
        }

        private void writeFrame() {
            addMark(MARK_FRAME);
            out.addTwo(8 + 3 * packed.layers);
            out.add(8);
            out.addTwo(packed.height);
            out.addTwo(packed.width);
            out.add(packed.layers);
            for (int layer = 0; layer < packed.layers; layer++) {
                out.add(layer + 1);
                out.add(16 * packed.across[layer] + packed.down[layer]);
                out.add(kindOf(layer));
            }
        }

        private void writeCodes() {
            int length = 2;
            for (int kind = 0; kind < kinds; kind++) {
                length += 2 * (1 + MOST_BITS) + starts[kind].size + rests[kind].size;
            }
            addMark(MARK_CODES);
            out.addTwo(length);
            for (int kind = 0; kind < kinds; kind++) {
                writeOwnCodes(kind, starts[kind]);
                writeOwnCodes(16 + kind, rests[kind]);
            }
        }

        private void writeOwnCodes(int number, OwnCodes own) {
            out.add(number);
            for (int n = 1; n <= MOST_BITS; n++) {
                out.add(own.counts[n]);
            }
            for (int i = 0; i < own.size; i++) {
                out.add(own.order[i]);
            }
        }

        private void writeScan() {
            addMark(MARK_SCAN);
            out.addTwo(6 + 2 * packed.layers);
            out.add(packed.layers);
            for (int layer = 0; layer < packed.layers; layer++) {
                out.add(layer + 1);
                out.add(17 * kindOf(layer));
            }
            out.add(0);
            out.add(63);
            out.add(0);
        }

        private void writeData(int interval) {
            Arrays.fill(before, 0);
            int marks = 0;
            for (int unit = 0; unit < scan.units; unit++) {
                if (interval > 0 && unit > 0 && unit % interval == 0) {
                    writeAgain(MARK_AGAIN + marks % 8);
                    marks++;
                }
                for (int i = 0; i < scan.perUnit; i++) {
                    writeBlock(scan.order[scan.perUnit * unit + i]);
                }
            }
            fillByte();
        }

        private void writeAgain(int mark) {
            fillByte();
            if (!counting) {
                addMark(mark);
            }
            Arrays.fill(before, 0);
        }

        private void writeBlock(int block) {
            int layer = block / BLOCKS;
            int first = BLOCK * block;
            int more = packed.levels[first] - before[layer];
            before[layer] = packed.levels[first];
            writeSymbol(starts[kindOf(layer)], bitsOf(more), more);
            OwnCodes own = rests[kindOf(layer)];
            int zeros = 0;
            for (int k = 1; k < BLOCK; k++) {
                int level = packed.levels[first + k];
                if (level == 0) {
                    zeros++;
                } else {
                    for (; zeros >= 16; zeros -= 16) {
                        writeSymbol(own, LONGEST_RUN, 0);
                    }
                    writeSymbol(own, 16 * zeros + bitsOf(level), level);
                    zeros = 0;
                }
            }
            if (zeros > 0) {
                writeSymbol(own, 0, 0);
            }
        }

        private static int bitsOf(int number) {
            int n = 0;
            for (int rest = Math.abs(number); rest > 0; rest /= 2) {
                n++;
            }
            return n;
        }

        /** Writes a symbol, and behind it the number of as many bits as the symbol tells. */
        private void writeSymbol(OwnCodes own, int symbol, int number) {
            // No weight is so great that its symbol would be: looked at only so that no index can go beyond.
            if (!isWithin(symbol, 0, OwnCodes.NEVER - 1)) {
                return;
            }
            if (counting) {
                own.often[symbol]++;
                return;
            }
            int n = symbol % 16;
            writeBits(own.codes[symbol], own.lengths[symbol]);
            writeBits(number < 0 ? number + (1 << n) - 1 : number, n);
        }

        private void writeBits(int bits, int n) {
            // Bits that are written already stay in held, above those that count, until they are shifted out of it.
            held = held << n | bits;
            heldBits += n;
            while (heldBits >= 8) {
                heldBits -= 8;
                int value = held >> heldBits & 255;
                out.add(value);
                if (value == 255) {
                    out.add(0);
                }
            }
        }

        private void fillByte() {
            if (heldBits > 0) {
                writeBits((1 << 8 - heldBits) - 1, 8 - heldBits);
            }
        }
    }
}
