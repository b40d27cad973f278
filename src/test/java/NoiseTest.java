import java.util.Arrays;
import java.util.function.Consumer;

/** Promises 15 and 16 on rows with bytes changed at will: unpack() always ends, with a FAULT that can be, and changes nothing else. */
public final class NoiseTest {
    private static final Checks CHECKS = new Checks("NoiseTest");

    public static void main(String[] args) {
        everyByte();
        changedRows();
        noise();
        CHECKS.finish();
    }

    private static void unpack(BlockPicture x, int size, String what) {
        int sample = x.sample(0, 0, 0);
        int fault = x.unpack();
        int place = x.place();
        CHECKS.isTrue("FAULT " + fault + " of " + what, fault >= 0 && fault <= 8);
        CHECKS.isTrue("place " + place + " of " + what,
                fault == 0 ? place == -1 : fault == 1 ? place == size : place >= 0 && place < size);
        if (fault != 0) {
            CHECKS.same("the picture behind " + what, x.sample(0, 0, 0), sample);
        } else {
            x.sample(x.about(0) - 1, x.about(1) - 1, x.about(2) - 1);
            int layer = x.about(2) - 1;
            x.level(1, layer, 0, 63);
            x.take();
            x.pack(2, 1, 3);
        }
    }

    private static BlockPicture packed(Consumer<BlockPicture> scene, int across, int down, int interval) {
        BlockPicture x = Checks.with(scene);
        x.scale(0, 20, 8);
        x.scale(1, 30, 9);
        x.pack(across, down, interval);
        x.turn();
        CHECKS.same("unpack()", x.unpack(), 0);
        return x;
    }

    private static void everyByte() {
        for (int planes = 1; planes <= 3; planes += 2) {
            Consumer<BlockPicture> scene = Scenes.scene(planes, 19, 12, planes, 6);
            int size = packed(scene, 2, 1, 2).size();
            for (int i = 0; i < size; i++) {
                BlockPicture x = packed(scene, 2, 1, 2);
                for (int by : new int[] {1, 2, 4, 8, 16, 32, 64, 128, 255}) {
                    x.turn();
                    x.change(i, by);
                    unpack(x, size, "byte " + i + " by " + by);
                    x = packed(scene, 2, 1, 2);
                }
            }
        }
    }

    private static void changedRows() {
        for (int seed = 0; seed < 4000; seed++) {
            Scenes numbers = new Scenes(seed);
            int planes = 1 + 2 * numbers.next(2);
            BlockPicture x = packed(Scenes.scene(seed, 1 + numbers.next(64), 1 + numbers.next(64), planes, 5),
                    1 + numbers.next(2), 1 + numbers.next(2), numbers.next(6));
            int size = x.size();
            for (int i = 1 + numbers.next(5); i > 0; i--) {
                x.change(numbers.next(size), numbers.next(256));
            }
            if (numbers.next(5) == 0) {
                size = numbers.next(size);
                x.end(size);
            }
            unpack(x, size, "changed row " + seed);
        }
    }

    private static void noise() {
        for (int seed = 0; seed < 3000; seed++) {
            Scenes numbers = new Scenes(seed);
            int[] bytes = new int[40 + numbers.next(300)];
            Arrays.setAll(bytes, i -> numbers.next(4) == 0 ? 255 : numbers.next(256));
            Rows row = new Rows().mark(216).table(0, 1 + numbers.next(255)).starts(0).rests(0)
                    .frame(1 + numbers.next(64), 1 + numbers.next(64), 1, 17 + 17 * numbers.next(2), 0).scan(1, 0).add(bytes);
            BlockPicture x = packed(Scenes.scene(1, 8, 8, 1, 2), 1, 1, 0);
            row.type(x);
            unpack(x, row.size(), "noise " + seed);
        }
    }
}
