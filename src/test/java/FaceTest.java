import java.lang.reflect.Constructor;
import java.lang.reflect.Executable;
import java.lang.reflect.Field;
import java.lang.reflect.Member;
import java.lang.reflect.Method;
import java.lang.reflect.Modifier;
import java.util.Arrays;
import java.util.TreeSet;
import java.util.stream.Collectors;

/** 'The public face': all of it, as it is written there, and nothing that is not private beside it. */
public final class FaceTest {
    private static final String[] FACE = {
        "public static final int NONE",
        "public InstructionReader()",
        "public int read(int)",
        "public char letter(int) throws IndexOutOfBoundsException",
        "public int about(int)",
        "public void poke(int, int) throws IndexOutOfBoundsException",
        "public int at(int) throws IndexOutOfBoundsException",
        "public int next(int, int) throws IndexOutOfBoundsException, IllegalArgumentException",
        "public int before(int, int) throws IndexOutOfBoundsException",
        "public int numbers(int) throws IndexOutOfBoundsException",
    };

    public static void main(String[] args) {
        Check.sentence("The public face");
        Class<?> reader = InstructionReader.class;
        Check.same("the class", Modifier.toString(reader.getModifiers()), "public final");
        Check.same("above it", reader.getSuperclass().getName(), "java.lang.Object");
        Check.same("its interfaces", reader.getInterfaces().length, 0);
        Check.same("the face", lines(visible(reader)), lines(new TreeSet<>(Arrays.asList(FACE))));
        Check.same("NONE", InstructionReader.NONE, -1);
        noPrivateNameOfTheFace(reader);
        nestedOnes(reader);
        Check.finish();
    }

    private static TreeSet<String> visible(Class<?> reader) {
        TreeSet<String> all = new TreeSet<>();
        for (Field field : reader.getDeclaredFields()) {
            if (isVisible(field)) {
                all.add(Modifier.toString(field.getModifiers()) + " " + field.getType().getSimpleName()
                        + " " + field.getName());
            }
        }
        for (Constructor<?> one : reader.getDeclaredConstructors()) {
            if (isVisible(one)) {
                all.add(Modifier.toString(one.getModifiers()) + " " + reader.getName() + operands(one));
            }
        }
        for (Method one : reader.getDeclaredMethods()) {
            if (isVisible(one)) {
                all.add(Modifier.toString(one.getModifiers()) + " " + one.getReturnType().getSimpleName()
                        + " " + one.getName() + operands(one));
            }
        }
        return all;
    }

    private static boolean isVisible(Member one) {
        return !Modifier.isPrivate(one.getModifiers()) && !one.isSynthetic();
    }

    private static String operands(Executable one) {
        String thrown = names(one.getExceptionTypes());
        return "(" + names(one.getParameterTypes()) + ")" + (thrown.isEmpty() ? "" : " throws " + thrown);
    }

    private static String names(Class<?>[] types) {
        return Arrays.stream(types).map(Class::getSimpleName).collect(Collectors.joining(", "));
    }

    private static String lines(TreeSet<String> all) {
        return String.join("; ", all);
    }

    private static void noPrivateNameOfTheFace(Class<?> reader) {
        Check.sentence("LANGUAGE.md 1: No private method bears the name of a public one");
        TreeSet<String> names = new TreeSet<>();
        for (Method one : reader.getDeclaredMethods()) {
            if (Modifier.isPublic(one.getModifiers())) {
                names.add(one.getName());
            }
        }
        for (Method one : reader.getDeclaredMethods()) {
            if (Modifier.isPrivate(one.getModifiers())) {
                Check.same(one.getName() + " of the face", names.contains(one.getName()) ? 1 : 0, 0);
            }
        }
    }

    private static void nestedOnes(Class<?> reader) {
        Check.sentence("LANGUAGE.md 1: classes inside it are private or package-visible and static");
        for (Class<?> nested : reader.getDeclaredClasses()) {
            int how = nested.getModifiers();
            Check.same(nested.getName() + " is public or protected",
                    Modifier.isPublic(how) || Modifier.isProtected(how) ? 1 : 0, 0);
            Check.same(nested.getName() + " is static", Modifier.isStatic(how) ? 1 : 0, 1);
        }
    }
}
