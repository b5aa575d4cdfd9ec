import java.lang.reflect.Constructor;
import java.lang.reflect.Field;
import java.lang.reflect.Method;
import java.lang.reflect.Modifier;
import java.util.Arrays;
import java.util.Set;
import java.util.TreeSet;

/** The public face is the document's and no more, and private methods bear other names. */
public final class FaceTest {
    private static final Check CHECK = new Check("FaceTest");

    public static void main(String[] args) {
        Set<String> want = new TreeSet<>(Arrays.asList(
                "int feed(int, int, int, int, int)", "int text(int)", "int fault(int)",
                "int option(int, int) throws IndexOutOfBoundsException NoSuchElementException",
                "boolean knows(int, boolean)", "int weight(int)", "int sound(int)", "int length(int)",
                "int value(int)", "int sign(int, int)", "int best(int)", "int ranked(int)", "int least(int)",
                "int turned(int, int)", "int named(int)", "int count(int)"));
        Set<String> names = new TreeSet<>();
        Set<String> got = new TreeSet<>();
        for (Method method : ShortTeller.class.getDeclaredMethods()) {
            if (!Modifier.isPrivate(method.getModifiers()) && !method.isSynthetic()) {
                got.add(written(method));
                names.add(method.getName());
            }
        }
        CHECK.due("the methods", want.toString(), got.toString());
        CHECK.due("private methods of such names", "[]", hiddenOnes(names).toString());
        CHECK.due("the fields", "[public static final int ShortTeller.NONE]", visibleFields().toString());
        Constructor<?>[] constructors = ShortTeller.class.getDeclaredConstructors();
        CHECK.due("constructors", 1, constructors.length);
        CHECK.due("the constructor", "public ShortTeller()", constructors[0].toString());
        int flags = ShortTeller.class.getModifiers();
        CHECK.due("public final", true, Modifier.isPublic(flags) && Modifier.isFinal(flags));
        CHECK.end();
    }

    private static String written(Method method) {
        StringBuilder row = new StringBuilder();
        row.append(method.getReturnType().getSimpleName()).append(' ').append(method.getName()).append('(');
        for (int i = 0; i < method.getParameterCount(); i++) {
            row.append(i == 0 ? "" : ", ").append(method.getParameterTypes()[i].getSimpleName());
        }
        row.append(')').append(method.getExceptionTypes().length == 0 ? "" : " throws");
        for (Class<?> thrown : method.getExceptionTypes()) {
            row.append(' ').append(thrown.getSimpleName());
        }
        return row.toString();
    }

    private static Set<String> hiddenOnes(Set<String> names) {
        Set<String> hidden = new TreeSet<>();
        for (Method method : ShortTeller.class.getDeclaredMethods()) {
            if (Modifier.isPrivate(method.getModifiers()) && names.contains(method.getName())) {
                hidden.add(method.toString());
            }
        }
        for (Class<?> inside : ShortTeller.class.getDeclaredClasses()) {
            for (Method method : inside.getDeclaredMethods()) {
                if (names.contains(method.getName())) {
                    hidden.add(method.toString());
                }
            }
        }
        return hidden;
    }

    private static Set<String> visibleFields() {
        Set<String> visible = new TreeSet<>();
        for (Field field : ShortTeller.class.getDeclaredFields()) {
            if (!Modifier.isPrivate(field.getModifiers())) {
                visible.add(field.toString());
            }
        }
        return visible;
    }
}
