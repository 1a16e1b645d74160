import java.io.IOException;
import java.lang.reflect.InvocationTargetException;
import java.lang.reflect.Method;
import java.nio.file.Files;
import java.nio.file.Path;
import java.util.ArrayList;
import java.util.List;
import java.util.regex.Matcher;
import java.util.regex.Pattern;

/** README.md: its example answers what it says, and each call has a line with the number of its promise. */
public final class ReadmeTest {
    private static final Pattern EXAMPLE_CALL =
            Pattern.compile("index\\.(\\w+)\\(([^)]*)\\); +// (throws \\w+|-?\\d+(?:\\.\\d+)?)(?:: .*)?");
    private static final Pattern LISTED_CALL = Pattern.compile("\\| (\\d+) \\| `(\\w+)\\(([^)]*)\\)` \\| \\S.* \\|");
    private static final Pattern PROMISE = Pattern.compile("## Promise (\\d+): (.*)");

    private static Method method(String name) {
        for (Method method : CairnIndex.class.getDeclaredMethods()) {
            if (method.getName().equals(name)) {
                return method;
            }
        }
        throw new IllegalStateException("README.md tells of " + name);
    }

    private static Object[] arguments(String told) {
        List<Object> found = new ArrayList<>();
        for (String argument : told.isEmpty() ? new String[0] : told.split(", ")) {
            boolean isNumber = !argument.equals("true") && !argument.equals("false");
            found.add(isNumber ? (Object) Integer.valueOf(argument) : Boolean.valueOf(argument));
        }
        return found.toArray();
    }

    private static String answer(CairnIndex index, String name, String told) throws IllegalAccessException {
        try {
            return String.valueOf(method(name).invoke(index, arguments(told)));
        } catch (InvocationTargetException e) {
            return "throws " + e.getCause().getClass().getSimpleName();
        }
    }

    private static void example(List<String> lines) throws IllegalAccessException {
        int from = lines.indexOf("```java");
        int made = lines.indexOf("CairnIndex index = new CairnIndex();");
        Checks.holds("the example makes an object first", from >= 0 && made == from + 1);
        CairnIndex index = new CairnIndex();
        int at = made + 1;
        for (; at < lines.size() && !lines.get(at).equals("```"); at++) {
            Matcher call = EXAMPLE_CALL.matcher(lines.get(at));
            if (call.matches()) {
                Checks.holds(lines.get(at), answer(index, call.group(1), call.group(2)).equals(call.group(3)));
            } else {
                Checks.due("signs of \"" + lines.get(at) + "\", which tells no answer", 0, lines.get(at).length());
            }
        }
        Checks.holds("the example has calls, and an end", at > made + 10 && at < lines.size());
    }

    /** The document's promises, by their numbers from 1 on; the first one is the constructor. */
    private static List<String> promised() throws IOException {
        List<String> found = new ArrayList<>();
        for (String line : Files.readAllLines(Path.of("../shared/DOC.md"))) {
            Matcher promise = PROMISE.matcher(line);
            if (promise.matches()) {
                found.add(promise.group(1).equals("1") ? "CairnIndex" : promise.group(2));
            }
        }
        return found;
    }

    private static int countParameters(String name) {
        return name.equals("CairnIndex") ? 0 : method(name).getParameterCount();
    }

    private static void list(List<String> lines) throws IOException {
        List<String> listed = new ArrayList<>();
        for (String line : lines) {
            Matcher call = LISTED_CALL.matcher(line);
            if (call.matches()) {
                listed.add(call.group(2));
                Checks.due("the number in \"" + line + "\"", listed.size(), Integer.parseInt(call.group(1)));
                int parameters = call.group(3).isEmpty() ? 0 : call.group(3).split(", ").length;
                Checks.due("parameters in \"" + line + "\"", countParameters(call.group(2)), parameters);
            }
        }
        Checks.holds("the lines " + listed + " are the promises " + promised(), listed.equals(promised()));
    }

    /** A README that tells of a test tells of each. */
    private static void tests(List<String> lines) throws IOException {
        try (var files = Files.newDirectoryStream(Path.of("src/test/java"), "*Test.java")) {
            for (Path file : files) {
                String name = file.getFileName().toString().replace(".java", "");
                Checks.holds(name + " has a line", lines.stream().anyMatch(line -> line.startsWith("| `" + name + "` |")));
            }
        }
    }

    public static void main(String[] args) throws IOException, IllegalAccessException {
        List<String> lines = Files.readAllLines(Path.of("README.md"));
        example(lines);
        list(lines);
        tests(lines);
        Checks.end();
    }
}
