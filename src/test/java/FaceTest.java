import java.io.IOException;
import java.lang.reflect.Constructor;
import java.lang.reflect.Field;
import java.lang.reflect.Method;
import java.lang.reflect.Modifier;
import java.nio.file.Files;
import java.nio.file.Path;
import java.util.Arrays;
import java.util.Set;
import java.util.TreeSet;
import java.util.regex.Pattern;

/** The public face of the document, and the rules of LANGUAGE.md that can be looked at from outside. */
public final class FaceTest {
    private static final Check check = new Check();
    private static final String I = Check.BOUNDS;
    private static final String A = Check.ARGUMENT;
    private static final Set<String> FACE = Set.of(
            "void beams(int, int) " + I, "int ticks(int) " + A, "int token(int, int, int) " + I + " " + A,
            "int cancel(int, int) " + I, "int mode(int, int) " + I + " " + A + " " + Check.STATE,
            "void alarm(boolean)", "int time()", "int bodies(int) " + I,
            "int body(int, int, int) " + I + " " + A, "int waiting(int, int) " + I,
            "int waits(int, int, int) " + I, "int count(int, int) " + I, "int angle(int) " + I,
            "int order(int) " + I, "int seen(int) " + I, "int accepted()", "int refunds()", "int refund(int)");

    public static void main(String[] args) throws IOException {
        due("class is public and final", Modifier.toString(PairedGates.class.getModifiers()), "public final");
        due("methods", publicMethods().toString(), new TreeSet<>(FACE).toString());
        members();
        constants();
        nestedClasses();
        source();
        check.end();
    }

    private static void due(String what, String got, String want) {
        check.due(what, got, want);
    }

    private static Set<String> publicMethods() {
        Set<String> found = new TreeSet<>();
        for (Method method : PairedGates.class.getDeclaredMethods()) {
            if (!Modifier.isPrivate(method.getModifiers())) {
                found.add(textOf(method));
            }
        }
        return found;
    }

    private static String textOf(Method method) {
        StringBuilder text = new StringBuilder();
        text.append(method.getReturnType().getSimpleName()).append(' ').append(method.getName());
        String types = Arrays.toString(Arrays.stream(method.getParameterTypes()).map(Class::getSimpleName).toArray());
        text.append('(').append(types, 1, types.length() - 1).append(')');
        for (Class<?> thrown : method.getExceptionTypes()) {
            text.append(' ').append(thrown.getSimpleName());
        }
        return text.toString();
    }

    private static void members() {
        Constructor<?>[] made = PairedGates.class.getDeclaredConstructors();
        check.due("constructors", made.length, 1);
        due("constructor", made[0].toString(), "public PairedGates()");
        Set<String> open = new TreeSet<>();
        for (Method method : PairedGates.class.getDeclaredMethods()) {
            if (!Modifier.isPrivate(method.getModifiers())) {
                open.add(method.getName());
            }
        }
        for (Class<?> nested : PairedGates.class.getDeclaredClasses()) {
            for (Method method : nested.getDeclaredMethods()) {
                check.due(nested + " has a method of the face's name " + method.getName(),
                        open.contains(method.getName()) ? 1 : 0, 0);
            }
        }
    }

    private static void constants() {
        Set<String> found = new TreeSet<>();
        for (Field field : PairedGates.class.getDeclaredFields()) {
            int kind = field.getModifiers();
            if (!Modifier.isPrivate(kind)) {
                found.add(Modifier.toString(kind) + " " + field.getType() + " " + field.getName());
            }
            boolean loose = Modifier.isStatic(kind) && !Modifier.isFinal(kind);
            check.due(field + " is static but not final", loose ? 1 : 0, 0);
        }
        String start = "public static final int ";
        due("constants", found.toString(), new TreeSet<>(Set.of(start + "ACCEPTED", start + "CLOSED", start + "FULL",
                start + "REPEATED", start + "NONE")).toString());
        check.due("ACCEPTED", PairedGates.ACCEPTED, 0);
        check.due("CLOSED", PairedGates.CLOSED, 1);
        check.due("FULL", PairedGates.FULL, 2);
        check.due("REPEATED", PairedGates.REPEATED, 3);
        check.due("NONE", PairedGates.NONE, -1);
    }

    private static void nestedClasses() {
        Class<?>[] nested = PairedGates.class.getDeclaredClasses();
        check.due("not more than twelve classes", nested.length <= 11 ? 1 : 0, 1);
        for (Class<?> one : nested) {
            due(one + " is", Modifier.toString(one.getModifiers()), "private static final");
            check.due(one + " has few fields", one.getDeclaredFields().length <= 20 ? 1 : 0, 1);
        }
    }

    private static void source() throws IOException {
        String text = Files.readString(Path.of("src/main/java/PairedGates.java"));
        String[] banned = {"\\bimport\\b", "\\bpackage\\b", "->", "::", "\\bfinally\\b", "\\btry\\b", "\\bcatch\\b",
            "\\bsynchronized\\b", "\\bassert\\b", "Exact\\(", "\\bwhile\\b", "\\bSystem\\b", "\\bThread\\b"};
        for (String word : banned) {
            check.due("the source has " + word, Pattern.compile(word).matcher(text).find() ? 1 : 0, 0);
        }
    }
}
