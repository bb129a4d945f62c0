import java.io.IOException;
import java.lang.reflect.InvocationTargetException;
import java.lang.reflect.Method;
import java.lang.reflect.Modifier;
import java.nio.file.DirectoryStream;
import java.nio.file.Files;
import java.nio.file.Path;
import java.util.List;
import java.util.Set;
import java.util.TreeSet;
import java.util.regex.Matcher;
import java.util.regex.Pattern;

/**
 * Makes the calls that README.md shows and compares their answers with those that it says they give.
 *
 * A line of an example that is not understood is a fault too, so that no call is passed over.
 */
public final class ReadmeTest {
    private static final Check check = new Check();
    private static final Set<String> BLOCKS = Set.of("", "```java", "```sh");
    private static final String NEW_OBJECT = "PairedGates gates = new PairedGates();";
    private static final Pattern CALL = Pattern.compile("gates\\.(\\w+)\\(([^()]*)\\);\\s+// ([^:]+)(: .+)?");
    private static final Pattern TABLE_CALL = Pattern.compile("\\| `(\\w+)\\(([^()]*)\\)` \\|.*");
    private static final Pattern TABLE_TEST = Pattern.compile("\\| `(\\w+Test)` \\|.*");

    private final List<String> lines;
    private final Set<String> shown = new TreeSet<>();
    private PairedGates gates = null;
    private int calls = 0;

    private ReadmeTest(List<String> lines) {
        this.lines = lines;
    }

    public static void main(String[] args) throws IOException, IllegalAccessException {
        ReadmeTest readme = new ReadmeTest(Files.readAllLines(Path.of("README.md")));
        readme.examples();
        readme.callTable();
        readme.testTables();
        check.end();
    }

    private void examples() throws IllegalAccessException {
        String block = "";
        for (int i = 0; i < lines.size(); i++) {
            String line = lines.get(i).strip();
            String at = "line " + (i + 1) + " of README.md, " + line;
            if (line.startsWith("```")) {
                block = block.isEmpty() ? line : "";
                check.due(at + ": a block is of java or of sh", BLOCKS.contains(block) ? 1 : 0, 1);
                gates = null;
            } else if (block.equals("```java")) {
                example(at, line);
            }
        }
        check.due("the last block has an end", block, "");
        check.due("calls that the examples show", shown.toString(), faceNames().toString());
    }

    private void example(String at, String line) throws IllegalAccessException {
        if (line.equals(NEW_OBJECT)) {
            gates = new PairedGates();
            calls = 0;
            return;
        }
        Matcher matcher = CALL.matcher(line);
        boolean understood = gates != null && matcher.matches();
        check.due(at + ": is a call of an object, with its answer", understood ? 1 : 0, 1);
        if (understood) {
            calls++;
            check.due(at + ": is within 512 calls", calls <= 512 ? 1 : 0, 1);
            call(at, matcher.group(1), arguments(matcher.group(2)), matcher.group(3).strip());
        }
    }

    private void call(String at, String name, String[] arguments, String answer) throws IllegalAccessException {
        Method method = methodOf(name, arguments.length);
        check.due(at + ": is a call of the face", method == null ? 0 : 1, 1);
        if (method != null) {
            shown.add(name);
            check.due(at, answerOf(method, arguments), plain(answer));
        }
    }

    private String answerOf(Method method, String[] arguments) throws IllegalAccessException {
        Object[] values = new Object[arguments.length];
        for (int i = 0; i < values.length; i++) {
            values[i] = method.getParameterTypes()[i] == int.class ? number(arguments[i]) : truth(arguments[i]);
        }
        try {
            Object answer = method.invoke(gates, values);
            return method.getReturnType() == void.class ? "nothing" : String.valueOf(answer);
        } catch (InvocationTargetException e) {
            return "throws " + e.getCause().getClass().getSimpleName();
        }
    }

    /** An answer as it is compared: numbers and constants as a decimal number, the rest as it stands. */
    private static String plain(String answer) {
        switch (answer) {
            case "ACCEPTED":
                return String.valueOf(PairedGates.ACCEPTED);
            case "CLOSED":
                return String.valueOf(PairedGates.CLOSED);
            case "FULL":
                return String.valueOf(PairedGates.FULL);
            case "REPEATED":
                return String.valueOf(PairedGates.REPEATED);
            case "NONE":
                return String.valueOf(PairedGates.NONE);
            default:
                return answer.startsWith("0b") ? String.valueOf(number(answer)) : answer;
        }
    }

    private static Object number(String text) {
        return text.startsWith("0b") ? Integer.parseInt(text.substring(2), 2) : Integer.parseInt(text);
    }

    private static Object truth(String text) {
        if (!text.equals("true") && !text.equals("false")) {
            throw new IllegalArgumentException(text + " is neither true nor false");
        }
        return text.equals("true");
    }

    private static String[] arguments(String text) {
        return text.isBlank() ? new String[0] : text.strip().split(",\\s*");
    }

    private static Method methodOf(String name, int parameters) {
        for (Method method : PairedGates.class.getDeclaredMethods()) {
            boolean open = Modifier.isPublic(method.getModifiers());
            if (open && method.getName().equals(name) && method.getParameterCount() == parameters) {
                return method;
            }
        }
        return null;
    }

    private static Set<String> faceNames() {
        Set<String> names = new TreeSet<>();
        for (Method method : PairedGates.class.getDeclaredMethods()) {
            if (Modifier.isPublic(method.getModifiers())) {
                names.add(method.getName());
            }
        }
        return names;
    }

    private void callTable() {
        Set<String> told = new TreeSet<>();
        for (String line : lines) {
            Matcher matcher = TABLE_CALL.matcher(line);
            if (matcher.matches()) {
                String name = matcher.group(1);
                Method method = methodOf(name, arguments(matcher.group(2)).length);
                check.due("the face has " + line, method == null ? 0 : 1, 1);
                check.due("the table tells once of " + name, told.add(name) ? 1 : 0, 1);
            }
        }
        check.due("calls that the table tells of", told.toString(), faceNames().toString());
    }

    private void testTables() throws IOException {
        Set<String> told = new TreeSet<>();
        for (String line : lines) {
            Matcher matcher = TABLE_TEST.matcher(line);
            if (matcher.matches()) {
                told.add(matcher.group(1));
            }
        }
        Set<String> found = new TreeSet<>();
        try (DirectoryStream<Path> files = Files.newDirectoryStream(Path.of("src/test/java"), "*Test.java")) {
            for (Path file : files) {
                found.add(file.getFileName().toString().replace(".java", ""));
            }
        }
        check.due("tests that the tables tell of", told.toString(), found.toString());
    }
}
