import java.io.IOException;
import java.lang.reflect.Field;
import java.lang.reflect.Method;
import java.lang.reflect.Modifier;
import java.nio.file.Files;
import java.nio.file.Path;
import java.util.LinkedHashSet;
import java.util.Set;
import java.util.TreeSet;
import java.util.regex.Matcher;
import java.util.regex.Pattern;

/** The rules of LANGUAGE.md that a program can look for: the rest is for a reader. */
public final class FormTest {
    private static final Path FOLDER = Path.of("src/main/java");
    private static final int MOST_PARAMETERS = 7;
    private static final int MOST_CLASSES = 12;
    private static final int MOST_FIELDS = 20;

    private static final Set<String> MAY_BE_THROWN = Set.of("IllegalStateException",
        "IllegalArgumentException", "IndexOutOfBoundsException", "ArithmeticException",
        "UnsupportedOperationException", "NoSuchElementException", "RuntimeException");

    /** Each with the number of the rule that leaves it out. */
    private static final String[][] LEFT_OUT = {
        {"1", "\\bpackage\\b"},
        {"2", "::"},
        {"4", "Exact\\b"},
        {"4", "\\bSystem\\.(?!arraycopy\\b)"},
        {"5", "\\bstatic\\s*\\{"},
        {"6", "\\b(finally|synchronized|assert|volatile)\\b"},
        {"6", "\\btry\\s*\\("},
        {"6", "\\b(getMessage|printStackTrace|hashCode)\\b"},
        {"7", "\\b(NullPointer|ArrayIndexOutOfBounds|ClassCast|NegativeArraySize|ArrayStore)Exception\\b"},
        {"7", "\\b(Exception|Throwable|Error)\\b"},
        {"9", "\\bwhile\\s*\\(\\s*true\\s*\\)"},
        {"9", "\\bfor\\s*\\(\\s*;"},
        {"13", "\\b(Thread|Runtime|Process|ProcessBuilder|Random)\\b|Math\\.random"},
    };

    public static void main(String[] args) throws IOException {
        String code = withoutCommentsAndTexts(Files.readString(FOLDER.resolve("ExternalSorter.java")));
        oneFile();
        for (String[] rule : LEFT_OUT) {
            boolean isFound = Pattern.compile(rule[1]).matcher(code).find();
            Check.holds("rule " + rule[0] + ": has no " + rule[1], !isFound);
        }
        imports(code);
        exceptionsThrown(code);
        Check.holds("rule 11: classes in bounds", classes().size() <= MOST_CLASSES);
        for (Class<?> one : classes()) {
            staticFields(one);
            sizes(one);
        }
        namesOfPrivateMethods();
        Check.end();
    }

    private static void oneFile() throws IOException {
        try (var files = Files.walk(FOLDER)) {
            Check.due("files of the program", 1, (int) files.filter(Files::isRegularFile).count());
        }
    }

    /** A text becomes an empty one, so that what it says is not taken for code. */
    private static String withoutCommentsAndTexts(String source) {
        Pattern words = Pattern.compile("//[^\n]*|/\\*.*?\\*/|\"(\\\\.|[^\"\\\\])*\"|'(\\\\.|[^'\\\\])+'",
            Pattern.DOTALL);
        return words.matcher(source).replaceAll(part -> part.group().startsWith("/") ? " " : "\"\"");
    }

    private static void imports(String code) {
        Matcher found = Pattern.compile("\\bimport\\s+([\\w.*\\s]+);").matcher(code);
        Set<String> may = Set.of("java.util.ArrayList", "java.util.List", "java.util.Arrays",
            "java.util.Iterator", "java.util.NoSuchElementException");
        while (found.find()) {
            Check.holds("rule 4: may import " + found.group(1), may.contains(found.group(1)));
        }
    }

    private static void exceptionsThrown(String code) {
        Matcher found = Pattern.compile("\\bthrow\\b([^;]*);").matcher(code);
        while (found.find()) {
            Matcher made = Pattern.compile("\\s*new\\s+(\\w+)\\((\"\")?\\)\\s*").matcher(found.group(1));
            boolean isPlain = made.matches() && MAY_BE_THROWN.contains(made.group(1));
            Check.holds("rule 6: may throw" + found.group(1), isPlain);
        }
    }

    private static Set<Class<?>> classes() {
        Set<Class<?>> all = new LinkedHashSet<>();
        all.add(ExternalSorter.class);
        all.addAll(Set.of(ExternalSorter.class.getDeclaredClasses()));
        return all;
    }

    private static void staticFields(Class<?> one) {
        for (Field f : one.getDeclaredFields()) {
            if (Modifier.isStatic(f.getModifiers())) {
                Check.holds("rule 5: final " + f, Modifier.isFinal(f.getModifiers()));
            }
        }
    }

    private static void sizes(Class<?> one) {
        int fields = 0;
        for (Field f : one.getDeclaredFields()) {
            fields += Modifier.isStatic(f.getModifiers()) ? 0 : 1;
        }
        Check.holds("rule 11: fields in bounds in " + one, fields <= MOST_FIELDS);
        for (Method m : one.getDeclaredMethods()) {
            Check.holds("rule 11: parameters in bounds of " + m, m.getParameterCount() <= MOST_PARAMETERS);
            Check.holds("rule 2: no lambda " + m, !m.getName().startsWith("lambda$"));
        }
    }

    private static void namesOfPrivateMethods() {
        Set<String> face = new TreeSet<>();
        for (Method m : ExternalSorter.class.getMethods()) {
            face.add(m.getName());
        }
        for (Method m : ExternalSorter.class.getDeclaredMethods()) {
            if (Modifier.isPrivate(m.getModifiers())) {
                Check.holds("rule 1: no public method's name, " + m, !face.contains(m.getName()));
            }
        }
    }
}
