import java.io.IOException;
import java.lang.reflect.InvocationTargetException;
import java.lang.reflect.Method;
import java.lang.reflect.Modifier;
import java.nio.file.DirectoryStream;
import java.nio.file.Files;
import java.nio.file.Path;
import java.util.List;
import java.util.regex.Matcher;
import java.util.regex.Pattern;

/** README.md tells how to use the class: its example answers what it says, and no call and no test is left out. */
public final class ReadmeTest {
    private static final Path README = Path.of("README.md");
    private static final Path TESTS = Path.of("src/test/java");
    private static final Pattern MAKING = Pattern.compile("PairedField field = new PairedField\\((\\d+)\\); +// .+");
    private static final Pattern CALL =
            Pattern.compile("field\\.(\\w+)\\((.*)\\); +// (throws \\w+|-?\\d+|true|false)(:.*)?");
    private static final Pattern CALL_WITHOUT_ANSWER = Pattern.compile("field\\.(\\w+)\\((.*)\\); +// .+");

    public static void main(String[] args) throws IOException, ReflectiveOperationException {
        List<String> lines = Files.readAllLines(README);
        runExample(lines);
        String text = String.join("\n", lines);
        namesEveryCall(text);
        namesEveryTest(text);
        Check.due("README.md says how to run the tests", text.contains("\n.ci/run\n"), true);
        Check.finish("ReadmeTest");
    }

    private static void runExample(List<String> lines) throws ReflectiveOperationException {
        int from = lines.indexOf("```java") + 1;
        Check.due("README.md has an example", from > 0, true);
        PairedField field = null;
        for (int i = from; i < lines.size() && !lines.get(i).equals("```"); i++) {
            Matcher making = MAKING.matcher(lines.get(i));
            if (making.matches()) {
                field = new PairedField(Integer.parseInt(making.group(1)));
            } else {
                runLine(field, lines.get(i));
            }
        }
        Check.due("the example makes a field", field != null, true);
    }

    private static void runLine(PairedField field, String line) throws ReflectiveOperationException {
        Matcher call = CALL.matcher(line);
        Matcher bare = CALL_WITHOUT_ANSWER.matcher(line);
        if (call.matches()) {
            Check.due("README.md: " + line, answer(field, call.group(1), call.group(2)), call.group(3));
        } else if (bare.matches()) {
            Check.due("README.md: " + line, answer(field, bare.group(1), bare.group(2)), "nothing");
        } else {
            Check.due("README.md: " + line, "no call", "a call with a comment");
        }
    }

    /** What a call answers, written as in the example; "nothing" for a call that answers nothing. */
    private static String answer(PairedField field, String name, String arguments)
            throws ReflectiveOperationException {
        Method method = methodNamed(name);
        try {
            Object answer = method.invoke(field, valuesOf(arguments));
            return answer == null ? "nothing" : answer.toString();
        } catch (InvocationTargetException e) {
            return "throws " + e.getCause().getClass().getSimpleName();
        }
    }

    private static Method methodNamed(String name) throws NoSuchMethodException {
        for (Method method : PairedField.class.getMethods()) {
            if (method.getName().equals(name)) {
                return method;
            }
        }
        throw new NoSuchMethodException(name);
    }

    private static Object[] valuesOf(String arguments) {
        if (arguments.isEmpty()) {
            return new Object[0];
        }
        String[] texts = arguments.split(", ");
        Object[] values = new Object[texts.length];
        for (int i = 0; i < texts.length; i++) {
            boolean truth = texts[i].equals("true") || texts[i].equals("false");
            values[i] = truth ? (Object) Boolean.valueOf(texts[i]) : (Object) Integer.valueOf(texts[i]);
        }
        return values;
    }

    private static void namesEveryCall(String text) {
        for (Method method : PairedField.class.getDeclaredMethods()) {
            if (Modifier.isPublic(method.getModifiers())) {
                String name = method.getName();
                Check.due("README.md tells of " + name, text.contains("| `" + name + "("), true);
                Check.due("README.md's example has " + name, text.contains("\nfield." + name + "("), true);
            }
        }
    }

    private static void namesEveryTest(String text) throws IOException {
        try (DirectoryStream<Path> files = Files.newDirectoryStream(TESTS, "*Test.java")) {
            for (Path file : files) {
                String name = file.getFileName().toString().replace(".java", "");
                Check.due("README.md tells of " + name, text.contains("| `" + name + "` |"), true);
            }
        }
    }
}
