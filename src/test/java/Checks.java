import java.util.function.Consumer;
import java.util.function.ToIntBiFunction;

/** Counts what is not as due, prints it, and ends a test with exit code 1 if there was any. */
final class Checks {
    private static final int MOST_PRINTED = 20;
    /** An object answers 512 calls: long rows of answers are read from several objects that had the same calls before. */
    private static final int READS = 200;

    private final String name;
    private int made;
    private int wrong;

    Checks(String name) {
        this.name = name;
    }

    void same(String what, long got, long due) {
        made++;
        if (got != due) {
            tellWrong(what + " answered " + got + ", due is " + due);
        }
    }

    void isTrue(String what, boolean got) {
        made++;
        if (!got) {
            tellWrong(what + " does not hold");
        }
    }

    /** The exception must be of this very class: a machine's exception below it would not do. */
    void fails(String what, Class<?> due, Runnable call) {
        made++;
        String got = "nothing";
        try {
            call.run();
        } catch (RuntimeException e) {
            got = e.getClass().getName();
        }
        if (!got.equals(due.getName())) {
            tellWrong(what + " threw " + got + ", due is " + due.getName());
        }
    }

    /** Answers 0 .. count - 1, each read of an object that had just the calls of setup. */
    static int[] readMany(Consumer<BlockPicture> setup, int count, ToIntBiFunction<BlockPicture, Integer> read) {
        int[] answers = new int[count];
        BlockPicture x = null;
        for (int i = 0; i < count; i++) {
            if (i % READS == 0) {
                x = new BlockPicture();
                setup.accept(x);
            }
            answers[i] = read.applyAsInt(x, i);
        }
        return answers;
    }

    void sameRow(String what, int[] got, int[] due) {
        same(what + ": how many", got.length, due.length);
        for (int i = 0; i < Math.min(got.length, due.length); i++) {
            same(what + " [" + i + "]", got[i], due[i]);
        }
    }

    static BlockPicture with(Consumer<BlockPicture> setup) {
        BlockPicture x = new BlockPicture();
        setup.accept(x);
        return x;
    }

    private void tellWrong(String text) {
        wrong++;
        if (wrong <= MOST_PRINTED) {
            System.out.println(name + ": " + text);
        }
    }

    void finish() {
        System.out.println(name + ": " + made + " checks, " + wrong + " wrong");
        if (wrong != 0 || made == 0) {
            System.exit(1);
        }
    }
}
