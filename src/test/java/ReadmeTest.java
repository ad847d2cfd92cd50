import java.io.IOException;
import java.io.File;
import java.lang.reflect.Method;
import java.lang.reflect.Modifier;
import java.net.URL;
import java.net.URLClassLoader;
import java.nio.file.Files;
import java.nio.file.Path;
import java.util.ArrayList;
import java.util.Comparator;
import java.util.List;
import java.util.Set;
import java.util.TreeSet;
import java.util.regex.Matcher;
import java.util.regex.Pattern;
import java.util.stream.Collectors;
import java.util.stream.Stream;
import javax.tools.ToolProvider;

/** README.md tells the truth: its example is compiled and run, and what stands beside a line is due there. */
public final class ReadmeTest {
    private static final Pattern EXAMPLE = Pattern.compile("```java\n(.*?)```", Pattern.DOTALL);
    /** A line that keeps an answer, with what is due at the beginning of the remark. */
    private static final Pattern ANSWER = Pattern.compile("(?:\\w+ )?(\\w+) = desk\\..*; +// ([-\\w']+).*");
    private static final Pattern CODES = Pattern.compile("^\\| (\\d[\\d, ]*) \\|", Pattern.MULTILINE);
    /** All that the document names. */
    private static final String DUE_CODES = "[0, 2, 4, 11, 16, 17, 20, 21, 32, 34, 49, 50, 53, 64, 66, 67, 68]";

    public static void main(String[] args) throws Exception {
        Checks checks = new Checks("ReadmeTest");
        String readme = Files.readString(Path.of("README.md"));
        checkExample(checks, readme);
        checkCalls(checks, readme);
        checkCodes(checks, readme);
        checkTests(checks, readme);
        checks.end();
    }

    private static void checkExample(Checks checks, String readme) throws Exception {
        Matcher example = EXAMPLE.matcher(readme);
        checks.same("there is an example", example.find(), true);
        List<String> due = new ArrayList<>();
        StringBuilder body = new StringBuilder();
        for (String line : example.group(1).split("\n")) {
            body.append(line).append('\n');
            Matcher answer = ANSWER.matcher(line);
            if (answer.matches()) {
                due.add(line.strip() + " gives " + shown(answer.group(2)));
                body.append("told.add(String.valueOf(").append(answer.group(1)).append("));\n");
            }
        }
        List<String> told = run(body.toString());
        checks.same("answers that the example keeps", told.size(), due.size());
        for (int i = 0; i < Math.min(told.size(), due.size()); i++) {
            String line = due.get(i);
            checks.same("the example", line.substring(0, line.lastIndexOf(' ') + 1) + told.get(i), line);
        }
        for (String call : List.of("type", "handle", "answered", "answer", "entries", "entry", "pairType", "pairValue",
                "signed", "open")) {
            boolean isKept = due.stream().anyMatch(line -> line.contains("desk." + call + "("));
            checks.same("the example keeps what " + call + " tells", isKept, true);
        }
    }

    /** What is due as the example's answers are written. */
    private static String shown(String due) {
        if (due.equals("CLOSED") || due.equals("BAD")) {
            return due.equals("CLOSED") ? "-1" : "-2";
        }
        if (due.startsWith("'")) {
            return String.valueOf((int) due.charAt(1));
        }
        return due.startsWith("0x") ? String.valueOf(Long.decode(due.substring(0, due.length() - 1))) : due;
    }

    @SuppressWarnings("unchecked")
    private static List<String> run(String body) throws Exception {
        Path work = Files.createTempDirectory("readme");
        try {
            Path source = work.resolve("Example.java");
            Files.writeString(source, "import java.util.*;\npublic class Example {\n"
                    + "public static List<String> run() {\nList<String> told = new ArrayList<>();\n"
                    + body + "return told;\n}\n}\n");
            int failed = ToolProvider.getSystemJavaCompiler().run(null, null, null, "-cp",
                    System.getProperty("java.class.path"), "-d", work.toString(), source.toString());
            if (failed != 0) {
                return List.of();
            }
            try (URLClassLoader loader = new URLClassLoader(new URL[] {work.toUri().toURL()})) {
                return (List<String>) loader.loadClass("Example").getMethod("run").invoke(null);
            }
        } finally {
            try (Stream<Path> made = Files.walk(work)) {
                made.sorted(Comparator.reverseOrder()).map(Path::toFile).forEach(File::delete);
            }
        }
    }

    private static void checkCalls(Checks checks, String readme) {
        for (Method method : DirectoryDesk.class.getDeclaredMethods()) {
            if (Modifier.isPublic(method.getModifiers())) {
                checks.same(method.getName() + " is told", readme.contains("| `" + method.getName() + "("), true);
            }
        }
        checks.same("the constructor is told", readme.contains("| `DirectoryDesk()`"), true);
        checks.same("CLOSED is told", readme.contains("- `CLOSED` (" + DirectoryDesk.CLOSED + "): the line is closed."),
                true);
        checks.same("BAD is told", readme.contains("- `BAD` (" + DirectoryDesk.BAD
                + "): an argument is out of its bounds, or there is no such thing."), true);
    }

    private static void checkCodes(Checks checks, String readme) {
        Set<Integer> told = new TreeSet<>();
        Matcher codes = CODES.matcher(readme);
        while (codes.find()) {
            for (String code : codes.group(1).split(", ")) {
                told.add(Integer.valueOf(code));
            }
        }
        checks.same("the codes that are told", told.toString(), DUE_CODES);
    }

    private static void checkTests(Checks checks, String readme) throws IOException {
        checks.same("how the tests are run", readme.contains("```sh\n.ci/run\n```"), true);
        List<String> tests;
        try (Stream<Path> files = Files.list(Path.of("src/test/java"))) {
            tests = files.map(file -> file.getFileName().toString()).filter(name -> name.endsWith("Test.java"))
                    .collect(Collectors.toList());
        }
        for (String test : tests) {
            String name = test.substring(0, test.length() - ".java".length());
            checks.same(name + " is told", readme.contains("| `" + name + "` |"), true);
        }
    }
}
