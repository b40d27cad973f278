import java.lang.reflect.Field;

/** 'Terms': the bounds of the CANVAS, the PICTURE, the TABLES, the TAPE and OUT, each sentence by itself. */
public final class TermsTest {
    private static final Class<?> INDEX = IndexOutOfBoundsException.class;
    private static final Class<?> ARGUMENT = IllegalArgumentException.class;
    private static final Class<?> STATE = IllegalStateException.class;
    private static final Checks CHECKS = new Checks("TermsTest");
    private static final int MOST_TAPE = 32768;

    public static void main(String[] args) throws Exception {
        everyCanvas();
        samplesAreBytes();
        noPictureAtFirst();
        tablesAtFirst();
        theTapeIsAnotherRow();
        fullTapes();
        rowsThatFillTheTape();
        outOfMoreThanTheTape();
        CHECKS.finish();
    }

    /** "THE CANVAS has a width and a height, 1 .. 64 each, and 1 or 3 PLANES": all of them can be made, packed and read. */
    private static void everyCanvas() {
        for (int planes = 1; planes <= 3; planes += 2) {
            for (int width = 1; width <= 64; width++) {
                for (int height = 1; height <= 64; height++) {
                    BlockPicture x = new BlockPicture();
                    int right = width;
                    int below = height;
                    int behind = planes;
                    x.canvas(width, height, planes);
                    x.fill(width - 1, height - 1, 1, 1, 0xFFFFFF);
                    CHECKS.same("the last sample", x.at(width - 1, height - 1, planes - 1), 255);
                    CHECKS.same("the first sample", x.at(0, 0, 0), width + height == 2 ? 255 : 0);
                    CHECKS.fails("beyond the width", INDEX, () -> x.at(right, 0, 0));
                    CHECKS.fails("beyond the height", INDEX, () -> x.at(0, below, 0));
                    CHECKS.fails("beyond the planes", INDEX, () -> x.at(0, 0, behind));
                    x.pack(1 + width % 2, 1 + height % 2, 0);
                    x.turn();
                    CHECKS.same("unpack() of " + width + " by " + height, x.unpack(), 0);
                    CHECKS.same("its width", x.about(0), width);
                    CHECKS.same("its height", x.about(1), height);
                    CHECKS.same("its layers", x.about(2), planes);
                }
            }
        }
    }

    /** "samples 0 .. 255": bytes of c, whatever its sign. */
    private static void samplesAreBytes() {
        int[] colours = {0, 255, 256, -1, 128, Integer.MIN_VALUE, Integer.MAX_VALUE, 0x80808080, 0x00FF00FF, 0xFF00FF00};
        for (int c : colours) {
            for (int planes = 1; planes <= 3; planes += 2) {
                BlockPicture x = new BlockPicture();
                x.canvas(2, 1, planes);
                x.fill(0, 0, 1, 1, c);
                x.slope(1, 0, 1, 1, c, ~c);
                for (int plane = 0; plane < planes; plane++) {
                    int due = c >>> 8 * (planes - 1 - plane) & 255;
                    CHECKS.same("fill(.., " + c + ")", x.at(0, 0, plane), due);
                    CHECKS.same("slope(.., " + c + ", ..)", x.at(1, 0, plane), due);
                }
            }
        }
    }

    /** "THE PICTURE .. there is none at first": neither a canvas nor a packed one nor a FAULT makes one. */
    private static void noPictureAtFirst() {
        BlockPicture x = new BlockPicture();
        for (int i = 0; i < 4; i++) {
            for (int what = 0; what < 3; what++) {
                int asked = what;
                CHECKS.fails("about(" + what + ")", STATE, () -> x.about(asked));
            }
            CHECKS.fails("sample(0, 0, 0)", STATE, () -> x.sample(0, 0, 0));
            CHECKS.fails("level(1, 0, 0, 0)", STATE, () -> x.level(1, 0, 0, 0));
            CHECKS.fails("take()", STATE, x::take);
            CHECKS.same("place()", x.place(), i < 2 ? -1 : i == 2 ? 0 : x.size() - 1);
            if (i == 0) {
                x.canvas(8, 8, 1);
                x.pack(1, 1, 0);
            } else if (i == 1) {
                CHECKS.same("unpack() of an empty TAPE", x.unpack(), 1);
            } else {
                x.turn();
                x.end(x.size() - 1);
                CHECKS.same("unpack() of a TAPE that is cut", x.unpack(), 1);
            }
        }
        x.turn();
        CHECKS.same("unpack()", x.unpack(), 0);
        CHECKS.same("about(0) then", x.about(0), 8);
    }

    /** "TABLES 0 and 1 .. at first all are 1": weights are levels. */
    private static void tablesAtFirst() {
        BlockPicture x = new BlockPicture();
        x.canvas(1, 1, 3);
        x.fill(0, 0, 1, 1, 0x808080);
        x.pack(1, 1, 0);
        CHECKS.same("where table 1 begins", x.out(71), 1);
        for (int i = 7; i < 136; i++) {
            CHECKS.same("byte " + i + " of the tables", x.out(i), 1);
        }
        x.fill(0, 0, 1, 1, 0x818181);
        x.pack(1, 1, 0);
        CHECKS.same("a weight 8", x.level(0, 0, 0, 0), 8);
    }

    /** "THE TAPE .. is typed twenty at a time, cut, and stays until it is cut; OUT is another one". */
    private static void theTapeIsAnotherRow() {
        BlockPicture x = new BlockPicture();
        x.feed(0xFFD8FFD9, 2, 3, 4, 0x05060708);
        x.canvas(9, 9, 3);
        x.pack(2, 2, 1);
        CHECKS.same("the TAPE stays when a canvas is packed", x.change(19, 0), 8);
        CHECKS.same("FAULT 3", x.unpack(), 3);
        CHECKS.same("the TAPE stays when it is unpacked", x.change(0, 0), 255);
        CHECKS.fails("and has twenty bytes", INDEX, () -> x.change(20, 0));
        int size = x.size();
        x.end(0);
        CHECKS.fails("the TAPE is empty when it is cut behind none", INDEX, () -> x.change(0, 0));
        CHECKS.same("OUT stays", x.size(), size);
        x.end(0);
        CHECKS.same("feed of an empty TAPE", x.feed(7, 7, 7, 7, 7), 20);
    }

    /** A TAPE of so many bytes, all of them 255 but for some told first. It takes more calls than are promised to be good. */
    private static BlockPicture tape(int size, int... first) {
        BlockPicture x = new BlockPicture();
        for (int i = 0; i + 20 <= MOST_TAPE; i += 20) {
            x.feed(-1, -1, -1, -1, -1);
        }
        x.end(32748);
        CHECKS.same("the last twenty bytes", x.feed(-1, -1, -1, -1, -1), MOST_TAPE);
        for (int i = 0; i < first.length; i++) {
            x.change(i, 255 ^ first[i]);
        }
        x.end(size);
        return x;
    }

    /** "at most 32,768 bytes": what a full TAPE answers. */
    private static void fullTapes() {
        BlockPicture x = tape(MOST_TAPE);
        CHECKS.fails("feed of a full TAPE", STATE, () -> x.feed(0, 0, 0, 0, 0));
        CHECKS.same("it changes nothing", x.change(MOST_TAPE - 1, 0), 255);
        CHECKS.fails("change(32768, 0)", INDEX, () -> x.change(MOST_TAPE, 0));
        CHECKS.fails("end(32769)", ARGUMENT, () -> x.end(MOST_TAPE + 1));
        CHECKS.same("a TAPE of bytes 255 ends too early", x.unpack(), 1);
        CHECKS.same("at its end", x.place(), MOST_TAPE);
        for (int room = 0; room < 20; room++) {
            x.end(MOST_TAPE - room);
            CHECKS.fails("feed with room for " + room, STATE, () -> x.feed(0, 0, 0, 0, 0));
        }
        x.end(MOST_TAPE - 20);
        CHECKS.same("feed with room for 20", x.feed(1, 1, 1, 1, 1), MOST_TAPE);
        CHECKS.same("FAULT 3 behind so many bytes 255", x.unpack(), 3);
        CHECKS.same("at the first byte that is another", x.place(), MOST_TAPE - 20);
        CHECKS.same("turn() of an empty OUT", x.turn(), 0);
        CHECKS.fails("the TAPE has nothing then", INDEX, () -> x.change(0, 0));
    }

    /** MARK 216, bytes 255 and a section that goes just to the TAPE's end, or a byte beyond it; and a right row that fills it. */
    private static void rowsThatFillTheTape() {
        BlockPicture x = tape(MOST_TAPE, 255, 216, 255, 224, 127, 252);
        CHECKS.same("a section that ends with the TAPE", x.unpack(), 1);
        CHECKS.same("its place", x.place(), MOST_TAPE);
        x.change(5, 252 ^ 253);
        CHECKS.same("a section that ends behind the TAPE", x.unpack(), 1);
        CHECKS.same("its place", x.place(), MOST_TAPE);
        x.change(5, 253 ^ 251);
        CHECKS.same("a section that ends before the TAPE's last byte", x.unpack(), 1);
        CHECKS.same("its place", x.place(), MOST_TAPE);
        x.change(MOST_TAPE - 1, 1);
        CHECKS.same("another byte than 255 there", x.unpack(), 2);
        CHECKS.same("its place", x.place(), MOST_TAPE - 1);
        int[] row = new Rows().mark(216).table(0, 8).starts(0).rests(0).frame(8, 8, 1, 17, 0).scan(1, 0).start(5).restSymbol(0)
                .fillByte('1').mark(217).row();
        BlockPicture y = tape(MOST_TAPE);
        for (int i = 0; i < row.length; i++) {
            y.change(MOST_TAPE - row.length + i, 255 ^ row[i]);
        }
        CHECKS.same("a row that fills the TAPE", y.unpack(), 0);
        CHECKS.same("its level", y.level(1, 0, 0, 0), 5);
        y.end(MOST_TAPE - 1);
        CHECKS.same("the same without its last byte", y.unpack(), 1);
        CHECKS.same("its place", y.place(), MOST_TAPE - 1);
        CHECKS.same("its level stays", y.level(1, 0, 0, 0), 5);
    }

    private static Field field(Object of, String name) throws Exception {
        Field field = of.getClass().getDeclaredField(name);
        field.setAccessible(true);
        return field;
    }

    /** No canvas makes so long a row, so OUT's length is set from outside: "IllegalStateException: these are more than 32,768". */
    private static void outOfMoreThanTheTape() throws Exception {
        BlockPicture x = new BlockPicture();
        x.pack(1, 1, 0);
        x.feed(1, 2, 3, 4, 5);
        Object out = field(x, "out").get(x);
        Field size = field(out, "size");
        for (int n : new int[] {MOST_TAPE + 1, 65535, 65536}) {
            size.setInt(out, n);
            CHECKS.same("size()", x.size(), n);
            CHECKS.fails("turn() of " + n, STATE, x::turn);
            CHECKS.same("the TAPE stays", x.change(19, 0), 5);
            CHECKS.fails("and is no longer", INDEX, () -> x.change(20, 0));
            CHECKS.same("OUT stays", x.out(0), 255);
            CHECKS.same("OUT's last byte", x.out(n - 1), 0);
            CHECKS.fails("a byte beyond OUT", INDEX, () -> x.out(n));
        }
        size.setInt(out, MOST_TAPE);
        CHECKS.same("turn() of 32768", x.turn(), MOST_TAPE);
        CHECKS.same("the TAPE's last byte", x.change(MOST_TAPE - 1, 1), 1);
        CHECKS.fails("feed behind it", STATE, () -> x.feed(0, 0, 0, 0, 0));
    }
}
