import java.io.IOException;
import java.lang.reflect.Field;
import java.lang.reflect.Method;
import java.lang.reflect.Modifier;
import java.nio.file.Files;
import java.nio.file.Path;
import java.util.ArrayList;
import java.util.HashSet;
import java.util.List;
import java.util.Set;
import java.util.regex.Matcher;
import java.util.regex.Pattern;

/** What of ../shared/LANGUAGE.md can be seen in the program's text and in its members. */
public final class LanguageTest {
    private static final List<String> NEVER = List.of("import ", "package ", "->", "::", "synchronized", "finally",
            "assert ", "hashCode", "toString", "Exact(", "throw ", " try {", "while ", "double", "float", "String",
            "Long.", "Integer.", "var ");
    private static final Pattern LIBRARY = Pattern.compile("\\b(System|Math|Arrays)\\.(\\w+)");
    private static final Pattern METHOD = Pattern.compile("^( {4}| {8})(?! )[^=;]*\\(([^()]*)\\) \\{$");

    public static void main(String[] args) throws IOException {
        Checks checks = new Checks("LanguageTest");
        List<String> lines = Files.readAllLines(Path.of("src/main/java/DirectoryDesk.java"));
        int classes = 0;
        for (int i = 0; i < lines.size(); i++) {
            String line = lines.get(i);
            String code = line.strip().startsWith("*") || line.strip().startsWith("/") ? "" : line;
            for (String word : NEVER) {
                checks.same("line " + (i + 1) + " has " + word, code.contains(word), false);
            }
            Matcher library = LIBRARY.matcher(code);
            while (library.find()) {
                boolean isListed = List.of("System.arraycopy", "Math.min", "Math.max").contains(library.group());
                checks.same("line " + (i + 1) + " uses " + library.group(), isListed, true);
            }
            classes += code.contains(" class ") ? 1 : 0;
            Matcher method = METHOD.matcher(code);
            if (method.find()) {
                checkMethod(checks, lines, i, method);
            }
        }
        checks.same("at most twelve classes", classes <= 12, true);
        checkMembers(checks);
        checks.end();
    }

    private static void checkMembers(Checks checks) {
        Class<?> desk = DirectoryDesk.class;
        List<Class<?>> classes = new ArrayList<>(List.of(desk.getDeclaredClasses()));
        classes.add(desk);
        Set<Class<?>> types = new HashSet<>(List.of(int.class, long.class, boolean.class, int[].class, long[].class));
        Set<String> faceNames = new HashSet<>();
        for (Method method : desk.getMethods()) {
            faceNames.add(method.getName());
        }
        for (Class<?> one : classes) {
            types.add(one);
            types.add(one.arrayType());
        }
        for (Class<?> one : classes) {
            checks.same(one.getName() + " has no class inside but in the outermost one",
                    one == desk || one.getDeclaredClasses().length == 0, true);
            checkFields(checks, one, types);
            for (Method method : one.getDeclaredMethods()) {
                boolean isOfFace = one == desk && Modifier.isPublic(method.getModifiers());
                checks.same(method + " has a name of its own", isOfFace || !faceNames.contains(method.getName()), true);
            }
        }
    }

    private static void checkFields(Checks checks, Class<?> one, Set<Class<?>> types) {
        int ofObjects = 0;
        for (Field field : one.getDeclaredFields()) {
            boolean isStatic = Modifier.isStatic(field.getModifiers());
            checks.same(field + " is of a type that is listed", types.contains(field.getType()), true);
            checks.same(field + " is a constant number if it is static",
                    !isStatic || (Modifier.isFinal(field.getModifiers()) && field.getType().isPrimitive()), true);
            ofObjects += isStatic ? 0 : 1;
        }
        checks.same(one.getName() + " has at most twenty fields", ofObjects <= 20, true);
    }

    private static void checkMethod(Checks checks, List<String> lines, int from, Matcher method) {
        int to = from;
        while (!lines.get(to).equals(method.group(1) + "}")) {
            to++;
        }
        String where = "the method in line " + (from + 1);
        checks.same(where + " is short", to - from <= 60, true);
        checks.same(where + " takes at most seven", method.group(2).split(",").length <= 7, true);
    }
}
