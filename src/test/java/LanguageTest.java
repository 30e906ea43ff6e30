import java.io.IOException;
import java.nio.charset.StandardCharsets;
import java.nio.file.Files;
import java.nio.file.Path;
import java.util.List;
import java.util.regex.Matcher;
import java.util.regex.Pattern;

/** What of LANGUAGE.md can be read from the text of the class; run it in the project's folder. */
public final class LanguageTest {
    private static final Path SOURCE = Path.of("src", "main", "java", "SpinBench.java");
    private static final String[] WORDS = {"throw", "throws", "try", "catch", "synchronized", "assert", "protected",
        "package", "float", "double", "native", "volatile", "equals", "hashCode", "toString", "System\\.out", "Object",
        "Exception", "default\\s+int", "yield", "interface", "enum", "record", "while", "do"};
    /** What the class may name of the library; its own names have no such prefix. */
    private static final Pattern LIBRARY = Pattern.compile("\\b(System|Arrays|Math|Integer|Long|String)\\.(\\w+)");
    private static final List<String> ALLOWED = List.of("System.arraycopy", "Arrays.fill", "Math.max", "Math.min",
            "Math.abs", "Integer.bitCount");
    private static final Pattern METHOD = Pattern.compile("^( {4}| {8})(?! )[^=;]*\\([^;]*\\) \\{$");
    private static final int MOST_LINES = 60;
    private static final Due due = new Due("LanguageTest");

    public static void main(String[] args) throws IOException {
        String text = Files.readString(SOURCE, StandardCharsets.ISO_8859_1);
        due.holds("it is plain ASCII", text.chars().allMatch(c -> c < 128));
        String code = text.replaceAll("(?s)/\\*.*?\\*/", "").replaceAll("//[^\\n]*", "");
        for (String word : WORDS) {
            due.holds("no " + word, !Pattern.compile("\\b" + word + "\\b").matcher(code).find());
        }
        due.holds("no lambda, no method reference", !code.contains("->") && !code.contains("::"));
        due.holds("no annotation", !code.contains("@"));
        due.holds("no text", !code.contains("\""));
        due.holds("no division but that of a number that was looked at", count(code, " / ") == 1 && count(code, " % ") == 0);
        imports(code);
        library(code);
        shortMethods(code);
        loops(code);
        due.end();
    }

    private static int count(String code, String part) {
        return code.split(Pattern.quote(part), -1).length - 1;
    }

    private static void imports(String code) {
        Matcher matcher = Pattern.compile("import ([^;]*);").matcher(code);
        while (matcher.find()) {
            due.holds("import of " + matcher.group(1), matcher.group(1).equals("java.util.Arrays"));
        }
    }

    private static void library(String code) {
        Matcher matcher = LIBRARY.matcher(code);
        while (matcher.find()) {
            due.holds("the library has " + matcher.group(), ALLOWED.contains(matcher.group()));
        }
    }

    private static void shortMethods(String code) {
        String[] lines = code.split("\n");
        int methods = 0;
        for (int i = 0; i < lines.length; i++) {
            Matcher matcher = METHOD.matcher(lines[i]);
            if (!matcher.find()) {
                continue;
            }
            methods++;
            int end = i;
            while (!lines[end].equals(matcher.group(1) + "}")) {
                end++;
            }
            due.holds(lines[i].strip() + " is short", end - i + 1 <= MOST_LINES);
        }
        due.holds("the methods were found", methods > 80);
    }

    /** Every loop has a bound, or the end of a chain, in its own head. */
    private static void loops(String code) {
        Matcher matcher = Pattern.compile("for \\(([^;]*);([^;]*);").matcher(code);
        int loops = 0;
        while (matcher.find()) {
            loops++;
            due.holds("a bound in: " + matcher.group(), matcher.group(2).contains(" < ") || matcher.group(2).contains("!= null"));
        }
        due.holds("the loops were found", loops > 20 && loops == count(code, "for ("));
    }
}
