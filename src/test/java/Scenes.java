import java.util.function.Consumer;

/** Canvases painted with a row of numbers that is always the same, and what is then on them. */
final class Scenes {
    private long seed;

    Scenes(long seed) {
        this.seed = seed;
    }

    int next(int below) {
        seed = seed * 6364136223846793005L + 1442695040888963407L;
        return (int) Math.floorMod(seed >>> 33, (long) below);
    }

    /** Paints a canvas of this size with some rectangles; the same seed paints the same. */
    static Consumer<BlockPicture> scene(int seed, int width, int height, int planes, int rectangles) {
        return x -> {
            Scenes numbers = new Scenes(seed);
            x.canvas(width, height, planes);
            for (int i = 0; i < rectangles; i++) {
                int left = numbers.next(width);
                int top = numbers.next(height);
                int wide = 1 + numbers.next(width - left);
                int high = 1 + numbers.next(height - top);
                int c = numbers.next(1 << 24);
                if (numbers.next(3) == 0) {
                    x.fill(left, top, wide, high, c);
                } else {
                    x.slope(left, top, wide, high, c, numbers.next(1 << 24));
                }
            }
        };
    }

    /** Single samples of two colours as far as the calls go: a canvas whose blocks have many great levels. */
    static Consumer<BlockPicture> noise(int seed, int width, int height, int planes) {
        return x -> {
            Scenes numbers = new Scenes(seed);
            x.canvas(width, height, planes);
            for (int i = 0; i < 200; i++) {
                x.fill(numbers.next(width), numbers.next(height), 1, 1, numbers.next(2) == 0 ? -1 : numbers.next(1 << 24));
            }
        };
    }

    static int[][][] read(Consumer<BlockPicture> scene, int width, int height, int planes) {
        int[] flat = Checks.readMany(scene, planes * height * width,
                (x, i) -> x.at(i % width, i / width % height, i / width / height));
        int[][][] canvas = new int[planes][height][width];
        for (int i = 0; i < flat.length; i++) {
            canvas[i / width / height][i / width % height][i % width] = flat[i];
        }
        return canvas;
    }

    static int[] flat(int[][][] planes) {
        int height = planes[0].length;
        int width = planes[0][0].length;
        int[] flat = new int[planes.length * height * width];
        for (int i = 0; i < flat.length; i++) {
            flat[i] = planes[i / width / height][i / width % height][i % width];
        }
        return flat;
    }
}
