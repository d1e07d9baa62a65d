import java.io.IOException;
import java.lang.reflect.InvocationTargetException;
import java.lang.reflect.Method;
import java.lang.reflect.Modifier;
import java.nio.file.Files;
import java.nio.file.Path;
import java.util.ArrayList;
import java.util.Arrays;
import java.util.List;
import java.util.Set;
import java.util.TreeSet;
import java.util.regex.Matcher;
import java.util.regex.Pattern;

/** What README.md shows holds: each call of the class with its answer, and the names of the tests. */
public final class ReadmeTest {
    private static final Pattern CALL = Pattern.compile("x\\.(\\w+)\\((.*?)\\); +// ([^:]+)(: .+)?");
    private static final Pattern NEW = Pattern.compile("ExternalSorter x = new ExternalSorter\\((.*?)\\);.*");

    public static void main(String[] args) throws IOException, ReflectiveOperationException {
        List<String> lines = Files.readAllLines(Path.of("README.md"));
        calls(block(lines, "```java"));
        commands(lines);
        namesOfTests(lines);
        Check.end();
    }

    private static List<String> block(List<String> lines, String fence) {
        int first = lines.indexOf(fence) + 1;
        List<String> rest = lines.subList(first, lines.size());
        return rest.subList(0, rest.indexOf("```"));
    }

    private static void calls(List<String> lines) throws ReflectiveOperationException {
        Set<String> shown = new TreeSet<>();
        ExternalSorter x = null;
        for (String line : lines) {
            Matcher made = NEW.matcher(line);
            Matcher call = CALL.matcher(line);
            if (made.matches()) {
                Integer[] sizes = numbers(made.group(1));
                x = new ExternalSorter(sizes[0], sizes[1]);
            } else if (call.matches()) {
                String want = call.group(3);
                shown.add(call.group(1));
                shown.add(want);
                String got = answer(x, call.group(1), numbers(call.group(2)), want);
                Check.holds(line + " (it answered " + got + ")", want.equals(got));
            } else {
                Check.holds(line + " is a call with its answer:", false);
            }
        }
        wholeFaceIsAmong(shown);
    }

    private static void wholeFaceIsAmong(Set<String> shown) {
        for (Method m : ExternalSorter.class.getDeclaredMethods()) {
            if (Modifier.isPublic(m.getModifiers())) {
                Check.holds(m.getName() + " is shown:", shown.contains(m.getName()));
            }
        }
        for (var constant : ExternalSorter.class.getFields()) {
            Check.holds(constant.getName() + " is shown:", shown.contains(constant.getName()));
        }
    }

    private static Integer[] numbers(String words) {
        List<Integer> all = new ArrayList<>();
        for (String word : words.isEmpty() ? new String[0] : words.split(", ")) {
            all.add(Integer.valueOf(word));
        }
        return all.toArray(new Integer[0]);
    }

    /** In the words of the README: a constant's name where it has one there, else the number itself. */
    private static String answer(ExternalSorter x, String name, Integer[] numbers, String want)
            throws ReflectiveOperationException {
        Class<?>[] types = new Class<?>[numbers.length];
        Arrays.fill(types, int.class);
        Object got;
        try {
            got = ExternalSorter.class.getMethod(name, types).invoke(x, (Object[]) numbers);
        } catch (InvocationTargetException e) {
            return "throws " + e.getCause().getClass().getSimpleName();
        }
        if (got == null) {
            return "no answer";
        }
        for (var constant : ExternalSorter.class.getFields()) {
            if (constant.getName().equals(want) && constant.get(null).equals(got)) {
                return want;
            }
        }
        return got.toString();
    }

    private static void commands(List<String> lines) {
        for (String command : block(lines, "```sh")) {
            Check.holds(command + " can be run:", Files.isExecutable(Path.of(command)));
        }
    }

    private static void namesOfTests(List<String> lines) throws IOException {
        Set<String> rows = new TreeSet<>();
        for (String line : lines) {
            Matcher row = Pattern.compile("\\| `(\\w+)` \\|.*").matcher(line);
            if (row.matches()) {
                rows.add(row.group(1));
            }
        }
        String all = String.join("\n", lines);
        Set<String> tests = new TreeSet<>();
        try (var files = Files.list(Path.of("src/test/java"))) {
            for (Path file : (Iterable<Path>) files::iterator) {
                String name = file.getFileName().toString().replace(".java", "");
                Check.holds("README.md names `" + name + "`:", all.contains("`" + name + "`"));
                if (name.endsWith("Test")) {
                    tests.add(name);
                }
            }
        }
        Check.holds("the tests " + tests + " are the table's " + rows + ":", tests.equals(rows));
    }
}
