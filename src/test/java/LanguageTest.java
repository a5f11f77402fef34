import java.io.IOException;
import java.nio.file.Files;
import java.nio.file.Path;
import java.util.regex.Matcher;
import java.util.regex.Pattern;

/** What of ../shared/LANGUAGE.md can be told by the text of the program alone. */
public final class LanguageTest {
    private static final String[] NEVER = {"throw", "throws", "try", "catch", "finally", "synchronized", "assert", "package",
        "protected", "volatile", "transient", "native", "yield", "lambda", "System\\.out", "System\\.in", "Object", "equals",
        "hashCode", "toString", "Random", "Thread", "double", "float", "\\w+Exact", "sqrt", "import"};

    public static void main(String[] args) throws IOException {
        String source = Files.readString(Path.of("src/main/java/SoundBoard.java"));
        Check.holds("signs are 1 to 127", source.chars().allMatch(c -> c > 0 && c < 128));
        String code = source.replaceAll("(?s)/\\*.*?\\*/", "").replaceAll("//[^\n]*", "");
        for (String word : NEVER) {
            Check.holds("no " + word, !Pattern.compile("\\b" + word + "\\b").matcher(code).find());
        }
        Check.holds("no lambda", !code.contains("->"));
        Check.holds("no method reference", !code.contains("::"));
        Check.holds("no annotation", !code.contains("@"));
        Check.holds("no text", !code.contains("\""));
        libraryCalls(code);
        madeInConstructors(code);
        shortMethods(code);
        Check.end("LanguageTest");
    }

    private static void libraryCalls(String code) {
        Matcher calls = Pattern.compile("\\b(Math|Integer|Long|Arrays|System)\\.(\\w+)").matcher(code);
        while (calls.find()) {
            String call = calls.group();
            Check.holds(call + " is of the library", call.matches("Math\\.(abs|min|max|floorMod|floorDiv)"));
        }
    }

    /** One room for all calls: new stands in constructors alone. */
    private static void madeInConstructors(String code) {
        String method = "";
        boolean inConstructor = false;
        for (String line : code.split("\n")) {
            if (isHeader(line)) {
                method = line.trim();
                inConstructor = method.matches("(public )?[A-Z]\\w*\\(.*");
            }
            if (line.matches(".*\\bnew\\b.*")) {
                Check.holds("new stands in a constructor, not in " + method, inConstructor);
            }
        }
    }

    private static boolean isHeader(String line) {
        return line.matches("( {4}| {8})(?!if|for|while|switch|\\})\\S.*\\) \\{");
    }

    private static void shortMethods(String code) {
        int begun = 0;
        String[] lines = code.split("\n");
        for (int n = 0; n < lines.length; n++) {
            if (isHeader(lines[n])) {
                begun = n;
                Check.holds(lines[n].trim() + " has at most seven parameters", lines[n].split(",").length <= 7);
            }
            if (lines[n].matches("( {4}| {8})\\}")) {
                Check.holds(lines[begun].trim() + " is short", n - begun <= 60 || lines[n].matches(" {4}\\}"));
            }
        }
    }
}
