import java.io.IOException;
import java.nio.file.Files;
import java.nio.file.Path;
import java.util.List;
import java.util.regex.Matcher;
import java.util.regex.Pattern;

/** What of ../shared/LANGUAGE.md can be seen by looking through the program's text. */
public final class LanguageTest {
    private static final List<String> NEVER = List.of("import ", "package ", "->", "::", "synchronized", "finally",
            "assert ", "hashCode", "toString", "Exact(", "throw ", " try {", "while ", "double", "float", "String",
            "Long.", "Integer.", "var ");
    private static final Pattern LIBRARY = Pattern.compile("\\b(System|Math|Arrays)\\.(\\w+)");
    private static final Pattern METHOD = Pattern.compile("^( {4}| {8})(?! )[^=;]*\\(([^()]*)\\) \\{$");

    public static void main(String[] args) throws IOException {
        Checks checks = new Checks("LanguageTest");
        List<String> lines = Files.readAllLines(Path.of("src/main/java/DirectoryDesk.java"));
        int classes = 0;
        for (int i = 0; i < lines.size(); i++) {
            String line = lines.get(i);
            String code = line.strip().startsWith("*") || line.strip().startsWith("/") ? "" : line;
            for (String word : NEVER) {
                checks.same("line " + (i + 1) + " has " + word, code.contains(word), false);
            }
            Matcher library = LIBRARY.matcher(code);
            while (library.find()) {
                boolean isListed = List.of("System.arraycopy", "Math.min", "Math.max").contains(library.group());
                checks.same("line " + (i + 1) + " uses " + library.group(), isListed, true);
            }
            classes += code.contains(" class ") ? 1 : 0;
            Matcher method = METHOD.matcher(code);
            if (method.find()) {
                checkMethod(checks, lines, i, method);
            }
        }
        checks.same("at most twelve classes", classes <= 12, true);
        checks.end();
    }

    private static void checkMethod(Checks checks, List<String> lines, int from, Matcher method) {
        int to = from;
        while (!lines.get(to).equals(method.group(1) + "}")) {
            to++;
        }
        String where = "the method in line " + (from + 1);
        checks.same(where + " is short", to - from <= 60, true);
        checks.same(where + " takes at most seven", method.group(2).split(",").length <= 7, true);
    }
}
