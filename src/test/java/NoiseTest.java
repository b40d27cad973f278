import java.util.Arrays;
import java.util.function.Consumer;

/**
 * Promises 15 and 16 on rows with bytes changed at will: unpack() answers what PlainReader does, at the same place, and
 * where there is a FAULT the picture before stays.
 */
public final class NoiseTest {
    private static final Checks CHECKS = new Checks("NoiseTest");
    private static final int[] FAULTS = new int[9];

    public static void main(String[] args) {
        everyByte();
        packedRows();
        randomRows();
        noise();
        for (int fault = 0; fault < FAULTS.length; fault++) {
            CHECKS.isTrue("FAULT " + fault + " came often", FAULTS[fault] >= 20);
        }
        CHECKS.finish();
    }

    /** A picture of one sample and one layer, that stays where a FAULT comes. */
    private static void showGrey(BlockPicture x) {
        x.canvas(1, 1, 1);
        x.fill(0, 0, 1, 1, 77);
        x.pack(1, 1, 0);
        x.turn();
        CHECKS.same("unpack() of the picture before", x.unpack(), 0);
    }

    private static void compare(String what, int... row) {
        PlainReader due = new PlainReader(row);
        FAULTS[due.fault]++;
        BlockPicture x = Checks.with(NoiseTest::showGrey);
        Rows.type(x, row);
        CHECKS.same("unpack() of " + what, x.unpack(), due.fault);
        CHECKS.same("place() of " + what, x.place(), due.place);
        if (due.fault != 0) {
            CHECKS.same("about(0) behind " + what, x.about(0), 1);
            CHECKS.same("about(2) behind " + what, x.about(2), 1);
            CHECKS.same("the sample behind " + what, x.sample(0, 0, 0), 77);
            return;
        }
        comparePicture(what, x, due);
    }

    /** As much of it as the calls of one object allow. */
    private static void comparePicture(String what, BlockPicture x, PlainReader due) {
        Plain picture = due.picture;
        CHECKS.same("about(0) of " + what, x.about(0), picture.width);
        CHECKS.same("about(1) of " + what, x.about(1), picture.height);
        CHECKS.same("about(2) of " + what, x.about(2), picture.levels.length);
        Scenes numbers = new Scenes(what.hashCode());
        int[][][] planes = picture.show(due.tablesUsed);
        for (int i = 0; i < 12; i++) {
            int plane = numbers.next(planes.length);
            int px = numbers.next(picture.width);
            int py = numbers.next(picture.height);
            CHECKS.same("sample of " + what, x.sample(px, py, plane), planes[plane][py][px]);
            int block = numbers.next(picture.levels[plane].length);
            int k = numbers.next(64);
            CHECKS.same("level of " + what, x.level(1, plane, block, k), picture.levels[plane][block][k]);
            CHECKS.same("level 0 of " + what, x.level(1, plane, block, 0), picture.levels[plane][block][0]);
        }
    }

    private static int[] packed(Consumer<BlockPicture> scene, int across, int down, int interval) {
        Consumer<BlockPicture> done = scene.andThen(x -> {
            x.scale(0, 20, 8);
            x.scale(1, 30, 9);
            x.pack(across, down, interval);
        });
        return Checks.readMany(done, Checks.with(done).size(), (x, i) -> x.out(i));
    }

    private static void everyByte() {
        for (int planes = 1; planes <= 3; planes += 2) {
            int[] row = packed(Scenes.scene(planes, 19, 12, planes, 6), 2, 1, 2);
            for (int i = 0; i < row.length; i++) {
                for (int by : new int[] {1, 2, 4, 8, 16, 32, 64, 128, 255}) {
                    int[] changed = row.clone();
                    changed[i] ^= by;
                    compare("byte " + i + " by " + by, changed);
                }
                compare("a row cut behind " + i, Arrays.copyOf(row, i));
            }
        }
    }

    private static void packedRows() {
        for (int seed = 0; seed < 150; seed++) {
            Scenes numbers = new Scenes(seed);
            int planes = 1 + 2 * numbers.next(2);
            int[] row = packed(Scenes.scene(seed, 1 + numbers.next(64), 1 + numbers.next(64), planes, 5),
                    1 + numbers.next(2), 1 + numbers.next(2), numbers.next(6));
            compare("a packed row " + seed, row);
            for (int i = 0; i < 12; i++) {
                compare("changed row " + seed + ", " + i, changed(numbers, row));
            }
        }
    }

    private static void randomRows() {
        for (int seed = 0; seed < 400; seed++) {
            int[] row = new RandomRow(seed, 8 << seed % 4).row.row();
            Scenes numbers = new Scenes(seed);
            compare("a row at will " + seed, row);
            for (int i = 0; i < 12; i++) {
                compare("row " + seed + " changed, " + i, changed(numbers, row));
            }
        }
    }

    /** Changes a byte or a few, most of them near the sections at the row's ends; cuts; takes bytes out, puts more in. */
    private static int[] changed(Scenes numbers, int[] row) {
        int[] changed = row.clone();
        for (int i = 1 + numbers.next(3); i > 0; i--) {
            int at = numbers.next(3) == 0 ? numbers.next(Math.min(60, changed.length)) : numbers.next(changed.length);
            int[] values = {0, 1, 2, 3, 8, 17, 63, 64, 255, 208, 209, 216, 217, 218, 219, 192, 196, 221, numbers.next(256)};
            changed[at] = values[numbers.next(values.length)];
        }
        int at = numbers.next(changed.length);
        int many = 1 + numbers.next(3);
        int[] other = changed;
        switch (numbers.next(8)) {
            case 0:
                return Arrays.copyOf(changed, at);
            case 1:
                other = Arrays.copyOf(changed, changed.length - Math.min(many, changed.length - at));
                System.arraycopy(changed, at + changed.length - other.length, other, at, other.length - at);
                return other;
            case 2:
                other = Arrays.copyOf(changed, changed.length + many);
                System.arraycopy(changed, at, other, at + many, changed.length - at);
                return other;
            case 3:
                return Arrays.copyOf(row, row.length + many);
            default:
                return changed;
        }
    }

    private static void noise() {
        for (int seed = 0; seed < 3000; seed++) {
            Scenes numbers = new Scenes(seed);
            int[] bytes = new int[40 + numbers.next(300)];
            Arrays.setAll(bytes, i -> numbers.next(4) == 0 ? 255 : numbers.next(256));
            compare("noise " + seed, new Rows().mark(216).table(0, 1 + numbers.next(255)).starts(0).rests(0)
                    .frame(1 + numbers.next(64), 1 + numbers.next(64), 1, 17 + 17 * numbers.next(2), 0).scan(1, 0).add(bytes).row());
        }
    }
}
