import java.lang.reflect.Field;
import java.lang.reflect.Method;
import java.lang.reflect.Modifier;
import java.nio.file.Files;
import java.nio.file.Path;
import java.util.Arrays;
import java.util.Set;
import java.util.TreeSet;

/** The public face, and those of LANGUAGE.md's rules that a test can see. */
public final class FaceTest {
    private static final Checks CHECKS = new Checks("FaceTest");
    private static final Set<String> FACE = new TreeSet<>(Set.of(
            "void canvas(int, int, int) throws IllegalArgumentException",
            "void fill(int, int, int, int, int) throws IndexOutOfBoundsException",
            "void slope(int, int, int, int, int, int) throws IndexOutOfBoundsException",
            "int at(int, int, int) throws IndexOutOfBoundsException",
            "void scale(int, int, int) throws IllegalArgumentException",
            "void entry(int, int, int, int) throws IndexOutOfBoundsException, IllegalArgumentException",
            "int pack(int, int, int) throws IllegalArgumentException",
            "int size()",
            "int out(int) throws IndexOutOfBoundsException",
            "int feed(int, int, int, int, int) throws IllegalStateException",
            "void end(int) throws IllegalArgumentException",
            "int change(int, int) throws IndexOutOfBoundsException, IllegalArgumentException",
            "int turn() throws IllegalStateException",
            "int unpack()",
            "int place()",
            "int about(int) throws IllegalArgumentException, IllegalStateException",
            "int sample(int, int, int) throws IllegalStateException, IndexOutOfBoundsException",
            "int level(int, int, int, int) throws IllegalArgumentException, IllegalStateException, IndexOutOfBoundsException",
            "void take() throws IllegalStateException"));

    public static void main(String[] args) throws Exception {
        face();
        statics(BlockPicture.class);
        for (Class<?> inside : BlockPicture.class.getDeclaredClasses()) {
            statics(inside);
            CHECKS.isTrue(inside.getName() + " is static", Modifier.isStatic(inside.getModifiers()));
            CHECKS.isTrue(inside.getName() + " is not public", !Modifier.isPublic(inside.getModifiers()));
            CHECKS.isTrue(inside.getName() + " has some twenty fields", inside.getDeclaredFields().length <= 20);
        }
        CHECKS.isTrue("there are some twelve classes", BlockPicture.class.getDeclaredClasses().length <= 12);
        words();
        CHECKS.finish();
    }

    private static String line(Method method) {
        StringBuilder line = new StringBuilder(method.getReturnType().getSimpleName()).append(' ').append(method.getName());
        line.append(simple(method.getParameterTypes(), "(", ")"));
        return line.append(method.getExceptionTypes().length == 0 ? "" : simple(method.getExceptionTypes(), " throws ", "")).toString();
    }

    private static String simple(Class<?>[] types, String before, String behind) {
        String[] names = Arrays.stream(types).map(Class::getSimpleName).toArray(String[]::new);
        return before + String.join(", ", names) + behind;
    }

    private static void face() {
        Set<String> seen = new TreeSet<>();
        Set<String> names = new TreeSet<>();
        for (Method method : BlockPicture.class.getDeclaredMethods()) {
            if (Modifier.isPublic(method.getModifiers())) {
                seen.add(line(method));
                names.add(method.getName());
            }
        }
        CHECKS.isTrue("the face is " + FACE + ", not " + seen, seen.equals(FACE));
        for (Method method : BlockPicture.class.getDeclaredMethods()) {
            if (!Modifier.isPublic(method.getModifiers())) {
                CHECKS.isTrue(method + " is private", Modifier.isPrivate(method.getModifiers()));
                CHECKS.isTrue(method + " has a name of its own", !names.contains(method.getName()));
            }
        }
        CHECKS.isTrue("the class is public and final",
                Modifier.isPublic(BlockPicture.class.getModifiers()) && Modifier.isFinal(BlockPicture.class.getModifiers()));
        CHECKS.same("how many constructors", BlockPicture.class.getDeclaredConstructors().length, 1);
        for (Field field : BlockPicture.class.getDeclaredFields()) {
            CHECKS.isTrue(field + " is private or NONE",
                    Modifier.isPrivate(field.getModifiers()) != field.getName().equals("NONE"));
        }
    }

    private static void statics(Class<?> type) {
        for (Field field : type.getDeclaredFields()) {
            if (Modifier.isStatic(field.getModifiers())) {
                CHECKS.isTrue(field + " is final", Modifier.isFinal(field.getModifiers()));
            }
        }
    }

    private static void words() throws Exception {
        String text = Files.readString(Path.of("src/main/java/BlockPicture.java"));
        for (String word : new String[] {"->", "::", "finally", "synchronized", "assert ", "Exact(", "Random", "System.n", "Thread",
            "ArrayIndexOutOfBounds", "NullPointer", "catch (RuntimeException", "catch (Exception", "catch (Throwable",
            "catch (IndexOutOfBounds", "catch (ArithmeticException", "double", "float"}) {
            CHECKS.isTrue("the class does without " + word, !text.contains(word));
        }
    }
}
