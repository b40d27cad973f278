/** Promises 11 to 14: feed, end, change, turn. */
public final class TapeTest {
    private static final Class<?> INDEX = IndexOutOfBoundsException.class;
    private static final Class<?> ARGUMENT = IllegalArgumentException.class;
    private static final Checks CHECKS = new Checks("TapeTest");

    public static void main(String[] args) {
        feeds();
        ends();
        changes();
        turns();
        fullTape();
        CHECKS.finish();
    }

    private static void feeds() {
        BlockPicture x = new BlockPicture();
        CHECKS.same("feed", x.feed(0x01020304, 0x05060708, 0x090A0B0C, 0x0D0E0F10, 0x11121314), 20);
        CHECKS.same("feed", x.feed(-1, Integer.MIN_VALUE, Integer.MAX_VALUE, 0, 0xFE0180FF), 40);
        for (int i = 0; i < 20; i++) {
            CHECKS.same("byte " + i, x.change(i, 0), i + 1);
        }
        int[] due = {255, 255, 255, 255, 128, 0, 0, 0, 127, 255, 255, 255, 0, 0, 0, 0, 254, 1, 128, 255};
        for (int i = 0; i < 20; i++) {
            CHECKS.same("byte " + (20 + i), x.change(20 + i, 0), due[i]);
        }
        CHECKS.same("OUT is another row", x.size(), 0);
    }

    private static void ends() {
        BlockPicture x = new BlockPicture();
        x.end(0);
        x.feed(1, 2, 3, 4, 5);
        x.end(20);
        CHECKS.fails("end(21)", ARGUMENT, () -> x.end(21));
        CHECKS.fails("end(-1)", ARGUMENT, () -> x.end(-1));
        CHECKS.fails("end(least)", ARGUMENT, () -> x.end(Integer.MIN_VALUE));
        CHECKS.fails("end(most)", ARGUMENT, () -> x.end(Integer.MAX_VALUE));
        CHECKS.same("wrong cuts change nothing", x.change(19, 0), 5);
        x.end(7);
        CHECKS.fails("a byte that was cut off", INDEX, () -> x.change(7, 0));
        CHECKS.fails("end(8) behind the cut", ARGUMENT, () -> x.end(8));
        CHECKS.same("feed behind the cut", x.feed(0x0A000000, 0, 0, 0, 9), 27);
        CHECKS.same("the byte before the cut", x.change(3, 0), 1);
        CHECKS.same("the byte behind it", x.change(7, 0), 10);
        CHECKS.same("the last byte", x.change(26, 0), 9);
        x.unpack();
        CHECKS.same("the TAPE stays when it is unpacked", x.feed(0, 0, 0, 0, 0), 47);
        x.end(0);
        CHECKS.same("unpack() of an empty TAPE", x.unpack(), 1);
        CHECKS.same("place() of an empty TAPE", x.place(), 0);
    }

    private static void changes() {
        BlockPicture x = new BlockPicture();
        x.feed(0x55AA0000, 0, 0, 0, 0xFF);
        CHECKS.same("change(0, 255)", x.change(0, 255), 0xAA);
        CHECKS.same("change(0, 15)", x.change(0, 15), 0xA5);
        CHECKS.same("change(0, 0)", x.change(0, 0), 0xA5);
        CHECKS.same("change(19, 1)", x.change(19, 1), 0xFE);
        CHECKS.same("the byte beside it", x.change(1, 0), 0xAA);
        for (int i : new int[] {-1, 20, Integer.MIN_VALUE, Integer.MAX_VALUE}) {
            CHECKS.fails("change(" + i + ", 1)", INDEX, () -> x.change(i, 1));
            CHECKS.fails("change(" + i + ", 256): the place first", INDEX, () -> x.change(i, 256));
        }
        for (int by : new int[] {-1, 256, Integer.MIN_VALUE, Integer.MAX_VALUE}) {
            CHECKS.fails("change(0, " + by + ")", ARGUMENT, () -> x.change(0, by));
        }
        CHECKS.same("wrong changes change nothing", x.change(0, 0), 0xA5);
    }

    private static void turns() {
        BlockPicture x = new BlockPicture();
        x.feed(1, 2, 3, 4, 5);
        CHECKS.same("turn() with an empty OUT", x.turn(), 0);
        CHECKS.fails("the TAPE is empty", INDEX, () -> x.change(0, 0));
        int size = x.pack(1, 1, 0);
        x.feed(1, 2, 3, 4, 5);
        CHECKS.same("turn()", x.turn(), size);
        for (int i = 0; i < size; i++) {
            CHECKS.same("byte " + i + " of the TAPE", x.change(i, 0), x.out(i));
        }
        x.change(0, 1);
        CHECKS.same("OUT stays", x.out(0), 255);
        CHECKS.same("feed behind it", x.feed(0, 0, 0, 0, 0), size + 20);
        CHECKS.same("size() stays", x.size(), size);
    }

    /** It takes more calls than an object is promised to be good for, but bytes beyond the room must not get lost unseen. */
    private static void fullTape() {
        BlockPicture x = new BlockPicture();
        for (int i = 1; i <= 1638; i++) {
            CHECKS.same("feed", x.feed(i, i, i, i, i), 20 * i);
        }
        CHECKS.fails("feed(..) without room", IllegalStateException.class, () -> x.feed(0, 0, 0, 0, 0));
        x.end(32749);
        CHECKS.fails("feed(..) with room for 19", IllegalStateException.class, () -> x.feed(0, 0, 0, 0, 0));
        CHECKS.same("it changes nothing", x.change(32739, 0), 1637 & 255);
        x.end(32748);
        CHECKS.same("feed(..) with room for 20", x.feed(0, 0, 0, 0, 0), 32768);
        CHECKS.fails("feed(..) of a full TAPE", IllegalStateException.class, () -> x.feed(0, 0, 0, 0, 0));
        x.end(32768);
        CHECKS.same("the last byte", x.change(32767, 3), 3);
    }
}
