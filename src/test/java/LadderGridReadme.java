import java.io.File;
import java.io.IOException;
import java.lang.reflect.Method;
import java.lang.reflect.Modifier;
import java.nio.file.Files;
import java.nio.file.Path;
import java.util.ArrayList;
import java.util.List;
import java.util.Set;
import java.util.TreeSet;
import java.util.regex.Matcher;
import java.util.regex.Pattern;

// README.md shows answers and lists the tests: both hold of the class and of the folder as they are.
public final class LadderGridReadme {
    private static final String FIRST_LINE = "LadderGrid x = new LadderGrid();";
    private static final Pattern CALL = Pattern.compile("x\\.(\\w+)\\(([^)]*)\\); +// (-?\\d+)(:.*)?");
    private static final Pattern ENTRY = Pattern.compile("- `(\\w+)`: .*");

    private static int wrong = 0;

    private static void due(String what, Object got, Object want) {
        if (!got.equals(want)) {
            wrong++;
            System.out.println(what + ": " + got + ", due is " + want);
        }
    }

    private static List<String> example(List<String> readme) {
        int first = readme.indexOf("```java") + 1;
        int length = readme.subList(first, readme.size()).indexOf("```");
        return readme.subList(first, first + length);
    }

    private static Object argument(String text) {
        if (text.equals("true") || text.equals("false")) {
            return Boolean.valueOf(text);
        }
        return Integer.valueOf(text);
    }

    private static Object[] arguments(String text) {
        List<Object> all = new ArrayList<>();
        for (String part : text.split(", ")) {
            if (!part.isEmpty()) {
                all.add(argument(part));
            }
        }
        return all.toArray();
    }

    private static List<Method> face() {
        List<Method> all = new ArrayList<>();
        for (Method m : LadderGrid.class.getDeclaredMethods()) {
            if (Modifier.isPublic(m.getModifiers())) {
                all.add(m);
            }
        }
        return all;
    }

    private static Object answer(LadderGrid x, String name, Object[] arguments) throws ReflectiveOperationException {
        for (Method m : face()) {
            if (m.getName().equals(name)) {
                return m.invoke(x, arguments);
            }
        }
        return "no such call";
    }

    private static void exampleHolds(List<String> readme) throws ReflectiveOperationException {
        List<String> lines = example(readme);
        due("the example's first line", lines.get(0), FIRST_LINE);
        LadderGrid x = new LadderGrid();
        Set<String> shown = new TreeSet<>();
        for (String line : lines.subList(1, lines.size())) {
            Matcher call = CALL.matcher(line);
            due("a call with its answer is '" + line + "'", call.matches(), true);
            if (call.matches()) {
                shown.add(call.group(1));
                due(line, answer(x, call.group(1), arguments(call.group(2))), Integer.valueOf(call.group(3)));
            }
        }
        Set<String> names = new TreeSet<>();
        for (Method m : face()) {
            names.add(m.getName());
        }
        due("the calls that the example shows", shown, names);
    }

    private static void listIsWhole(List<String> readme) {
        Set<String> listed = new TreeSet<>();
        for (String line : readme) {
            Matcher entry = ENTRY.matcher(line);
            if (entry.matches() && entry.group(1).startsWith("LadderGrid")) {
                listed.add(entry.group(1));
            }
        }
        Set<String> tests = new TreeSet<>();
        for (String name : new File("src/test/java").list()) {
            tests.add(name.replace(".java", ""));
        }
        due("the tests that README.md lists", listed, tests);
    }

    public static void main(String[] args) throws IOException, ReflectiveOperationException {
        List<String> readme = Files.readAllLines(Path.of("README.md"));
        exampleHolds(readme);
        listIsWhole(readme);
        System.out.println(wrong == 0 ? "README.md is as due" : wrong + " things in README.md are not as due");
        if (wrong != 0) {
            System.exit(1);
        }
    }
}
