import java.lang.reflect.Constructor;
import java.lang.reflect.Field;
import java.lang.reflect.Method;
import java.lang.reflect.Modifier;
import java.util.Arrays;
import java.util.TreeSet;

/** The public face: the document's members, and no other that is not private. */
public final class FaceTest {
    private static final String[] FACE = {
        "public static final int ExternalSorter.OK",
        "public static final int ExternalSorter.ROW",
        "public static final int ExternalSorter.GROUP",
        "public static final int ExternalSorter.END",
        "public static final int ExternalSorter.FULL",
        "public static final int ExternalSorter.SEALED",
        "public static final int ExternalSorter.NOT_SEALED",
        "public ExternalSorter(int,int)",
        "public void ExternalSorter.reset()",
        "public int ExternalSorter.feed(int,int)",
        "public int ExternalSorter.feedMany(int,int,int,int) throws java.lang.IllegalArgumentException",
        "public int ExternalSorter.seal()",
        "public int ExternalSorter.nextRow()",
        "public int ExternalSorter.nextGroup()",
        "public int ExternalSorter.skipTo(int)",
        "public int ExternalSorter.key()",
        "public int ExternalSorter.value()",
        "public int ExternalSorter.group(int) throws java.lang.IllegalArgumentException",
        "public int ExternalSorter.count(int) throws java.lang.IllegalArgumentException",
    };

    public static void main(String[] args) {
        TreeSet<String> want = new TreeSet<>(Arrays.asList(FACE));
        TreeSet<String> got = membersThatAreNotPrivate();
        for (String member : want) {
            Check.holds("has " + member, got.contains(member));
        }
        for (String member : got) {
            Check.holds("may have " + member, want.contains(member));
        }
        int modifiers = ExternalSorter.class.getModifiers();
        Check.holds("public", Modifier.isPublic(modifiers));
        Check.holds("final", Modifier.isFinal(modifiers));
        nothingElse();
        constants();
        Check.end();
    }

    private static TreeSet<String> membersThatAreNotPrivate() {
        TreeSet<String> members = new TreeSet<>();
        for (Field f : ExternalSorter.class.getDeclaredFields()) {
            if (!Modifier.isPrivate(f.getModifiers())) {
                members.add(f.toGenericString());
            }
        }
        for (Constructor<?> c : ExternalSorter.class.getDeclaredConstructors()) {
            if (!Modifier.isPrivate(c.getModifiers())) {
                members.add(c.toGenericString());
            }
        }
        for (Method m : ExternalSorter.class.getDeclaredMethods()) {
            if (!Modifier.isPrivate(m.getModifiers())) {
                members.add(m.toGenericString());
            }
        }
        return members;
    }

    /** The document's class line names no package, no class above it and no interface. */
    private static void nothingElse() {
        Check.holds("extends Object alone", ExternalSorter.class.getSuperclass() == Object.class);
        Check.due("interfaces", 0, ExternalSorter.class.getInterfaces().length);
        Check.due("type parameters", 0, ExternalSorter.class.getTypeParameters().length);
        Check.due("characters of its package's name", 0, ExternalSorter.class.getPackageName().length());
        Check.due("public members in all, with Object's", FACE.length + 9,
            ExternalSorter.class.getFields().length + ExternalSorter.class.getConstructors().length
                + ExternalSorter.class.getMethods().length);
        for (Class<?> inside : ExternalSorter.class.getDeclaredClasses()) {
            int open = inside.getModifiers() & (Modifier.PUBLIC | Modifier.PROTECTED);
            Check.due("may be seen outside: " + inside.getName(), 0, open);
        }
    }

    private static void constants() {
        Check.due("OK", 0, ExternalSorter.OK);
        Check.due("ROW", 1, ExternalSorter.ROW);
        Check.due("GROUP", 2, ExternalSorter.GROUP);
        Check.due("END", -1, ExternalSorter.END);
        Check.due("FULL", -2, ExternalSorter.FULL);
        Check.due("SEALED", -3, ExternalSorter.SEALED);
        Check.due("NOT_SEALED", -4, ExternalSorter.NOT_SEALED);
    }
}
