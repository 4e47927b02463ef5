import java.lang.reflect.Constructor;
import java.lang.reflect.Field;
import java.lang.reflect.Method;
import java.lang.reflect.Modifier;
import java.util.Arrays;
import java.util.Set;
import java.util.TreeSet;

/** The public face is the document's, and nothing else is seen from outside. */
public final class FaceTest {
    private static final String[] FACE = {
        "public final class DefiniteRows",
        "public DefiniteRows()",
        "public int DefiniteRows.cut(int) throws java.lang.IllegalArgumentException,java.lang.IllegalStateException",
        "public void DefiniteRows.join(int) throws java.lang.IndexOutOfBoundsException",
        "public boolean DefiniteRows.put(int,int,int) "
            + "throws java.lang.IndexOutOfBoundsException,java.lang.IllegalArgumentException",
        "public int DefiniteRows.at(int,int) "
            + "throws java.lang.IndexOutOfBoundsException,java.lang.IllegalArgumentException",
        "public int DefiniteRows.place(int) throws java.lang.IndexOutOfBoundsException",
        "public void DefiniteRows.mirror()",
        "public long DefiniteRows.value(int,int) "
            + "throws java.lang.IllegalArgumentException,java.lang.IllegalStateException",
        "public boolean DefiniteRows.integral(int,int) throws java.lang.IllegalArgumentException",
        "public long DefiniteRows.fraction(int) "
            + "throws java.lang.IllegalStateException,java.lang.IllegalArgumentException",
        "public int DefiniteRows.logarithm(int) "
            + "throws java.lang.IllegalStateException,java.lang.IllegalArgumentException",
        "public int DefiniteRows.symmetry()",
        "public int DefiniteRows.cuts()",
        "public void DefiniteRows.clear()",
    };

    public static void main(String[] args) {
        Class<?> c = DefiniteRows.class;
        Set<String> seen = new TreeSet<>();
        Set<String> publicNames = new TreeSet<>();
        seen.add(c.toGenericString());
        for (Constructor<?> made : c.getDeclaredConstructors()) {
            seen.add(made.toString());
        }
        for (Method m : c.getDeclaredMethods()) {
            if (!Modifier.isPrivate(m.getModifiers())) {
                seen.add(m.toString());
                publicNames.add(m.getName());
            }
        }
        for (Field f : c.getDeclaredFields()) {
            Check.due(f + " is private", Modifier.isPrivate(f.getModifiers()), true);
            if (Modifier.isStatic(f.getModifiers())) {
                Check.due(f + " is final", Modifier.isFinal(f.getModifiers()), true);
            }
        }
        Check.due("the face", String.join("\n", seen), String.join("\n", new TreeSet<>(Arrays.asList(FACE))));
        checkPrivateNames(c, publicNames);
        for (Class<?> inside : c.getDeclaredClasses()) {
            Check.due(inside + " is static", Modifier.isStatic(inside.getModifiers()), true);
            Check.due(inside + " is hidden", Modifier.isPublic(inside.getModifiers()), false);
            checkPrivateNames(inside, publicNames);
        }
        Check.end("FaceTest");
    }

    private static void checkPrivateNames(Class<?> c, Set<String> publicNames) {
        for (Method m : c.getDeclaredMethods()) {
            if (Modifier.isPrivate(m.getModifiers())) {
                Check.due(m + " bears a public name", publicNames.contains(m.getName()), false);
            }
        }
    }
}
