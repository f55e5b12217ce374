import java.io.IOException;
import java.nio.file.Files;
import java.nio.file.Path;
import java.util.regex.Matcher;
import java.util.regex.Pattern;

/** The source keeps to those rules of LANGUAGE.md that can be seen in its words. */
public final class LanguageTest {
    private static final String[] BARRED = {
        "throw", "throws", "try", "catch", "synchronized", "assert", "package", "protected", "volatile",
        "System\\.(?!arraycopy)", "Thread", "Random", "nanoTime", "->", "::", "\\w+Exact", "var",
        "hashCode", "toString", "String\\.", "getClass", "while \\(true\\)", "for \\(;",
    };

    public static void main(String[] args) throws IOException {
        Checks checks = new Checks("LanguageTest");
        String whole = Files.readString(Path.of("src/main/java/SwapPress.java"));
        String code = whole.replaceAll("(?s)/\\*.*?\\*/", "").replaceAll("//[^\n]*", "");
        for (String word : BARRED) {
            String bounded = Character.isLetter(word.charAt(0)) ? "\\b" + word : word;
            bounded = Character.isLetter(word.charAt(word.length() - 1)) ? bounded + "\\b" : bounded;
            checks.due("uses of " + word, count(code, bounded), 0);
        }
        checks.due("imports", count(code, "\\bimport\\b"), count(code, "import java\\.util\\.Arrays;"));
        checks.due("classes", count(code, "\\bclass\\b") <= 12 ? 1 : 0, 1);
        checks.due("signs beyond 126", count(whole, "[^\\x0a\\x20-\\x7e]"), 0);
        checkMadeOnce(checks, code);
        checkLengths(checks, code);
        checks.end();
    }

    /** All calls of a run live in one room, so nothing may be made but in fields and constructors. */
    private static void checkMadeOnce(Checks checks, String code) {
        for (String line : code.split("\n")) {
            if (line.contains("new ") && !line.contains("books[i] = new Book();")) {
                boolean field = line.matches(" +(private )?(final )?[\\w\\[\\]]+ \\w+ = new .*;");
                checks.due("a field's " + line.trim(), field && !line.startsWith("            ") ? 1 : 0, 1);
            }
        }
    }

    private static void checkLengths(Checks checks, String code) {
        Matcher method = Pattern.compile("(?m)^( {4}| {8})(?:[\\w\\[\\]]+ )+\\w+\\(([^)]*)\\) \\{\n((?:.*\n)*?)\\1\\}")
            .matcher(code);
        int found = 0;
        while (method.find()) {
            found++;
            String head = method.group().substring(0, method.group().indexOf('\n')).trim();
            checks.due("at most 60 lines in " + head, method.group(3).split("\n").length <= 60 ? 1 : 0, 1);
            checks.due("at most 7 parameters in " + head, method.group(2).split(",").length <= 7 ? 1 : 0, 1);
        }
        checks.due("methods are found", found > 60 ? 1 : 0, 1);
    }

    private static int count(String text, String pattern) {
        int found = 0;
        Matcher matcher = Pattern.compile(pattern).matcher(text);
        while (matcher.find()) {
            found++;
        }
        return found;
    }
}
