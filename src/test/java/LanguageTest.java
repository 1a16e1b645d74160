import java.io.IOException;
import java.nio.file.Files;
import java.nio.file.Path;
import java.util.regex.Matcher;
import java.util.regex.Pattern;

/** What can be seen of ../shared/LANGUAGE.md in the text of the class; run from the project's folder. */
public final class LanguageTest {
    private static final String[] RULED_OUT = {
        "\\bpackage\\b", "\\bimport\\b", "->", "::", "\\bcatch\\b", "\\bfinally\\b", "\\bsynchronized\\b", "\\bassert\\b",
        "\\bvar\\b", "Exact\\(", "\\bequals\\(", "\\bhashCode\\b", "\\btoString\\b", "\\bSystem\\b", "\\bObject\\b",
        "\\bstatic\\s*\\{", "\\bprotected\\b", "\"\\s*\\+", "\\+\\s*\"", "\\bvolatile\\b", "\\bnative\\b",
    };

    private static final int MOST_LINES = 60;
    private static final int MOST_PARAMETERS = 7;
    private static final int MOST_CLASSES = 12;

    private static String withoutComments(String text) {
        return text.replaceAll("(?s)/\\*.*?\\*/", "").replaceAll("//[^\n]*", "");
    }

    private static int count(String text, String pattern) {
        Matcher matcher = Pattern.compile(pattern).matcher(text);
        int found = 0;
        while (matcher.find()) {
            found++;
        }
        return found;
    }

    private static void methods(String code) {
        Matcher matcher = Pattern.compile("(?m)^( +)(?! )(?:\\w+ )*\\w+\\(([^)]*)\\)[^;{]*\\{$").matcher(code);
        while (matcher.find()) {
            String head = matcher.group().trim();
            int end = code.indexOf("\n" + matcher.group(1) + "}", matcher.end());
            Checks.holds(head + " ends", end > 0);
            Checks.holds(head + " is short", count(code.substring(matcher.start(), end), "\n") <= MOST_LINES);
            int parameters = matcher.group(2).isEmpty() ? 0 : 1 + count(matcher.group(2), ",");
            Checks.holds(head + " has few parameters", parameters <= MOST_PARAMETERS);
        }
    }

    public static void main(String[] args) throws IOException {
        String code = withoutComments(Files.readString(Path.of("src/main/java/CairnIndex.java")));
        for (String pattern : RULED_OUT) {
            Checks.due("places with " + pattern, 0, count(code, pattern));
        }
        Checks.due("statics that aren't final", 0, count(code, "\\bstatic\\b(?! final)[^(){}]*;"));
        Checks.due("throws of other kinds", count(code, "\\bthrow "),
                count(code, "throw new (IllegalState|IllegalArgument|IndexOutOfBounds)Exception\\(\"[\\x20-\\x7e]*\"\\);"));
        Checks.holds("few classes", count(code, "\\bclass \\w+") <= MOST_CLASSES);
        methods(code);
        Checks.end();
    }
}
