import java.lang.reflect.Constructor;
import java.lang.reflect.Field;
import java.lang.reflect.Method;
import java.lang.reflect.Modifier;
import java.util.Set;
import java.util.TreeSet;

/** The public face of the document, and nothing beside it (LANGUAGE.md, rule 1). */
final class FaceTest {
    private static final Set<String> FACE = Set.of(
        "public final class CuckooPages",
        "public static final int CuckooPages.NONE",
        "public static final int CuckooPages.FULL",
        "public CuckooPages()",
        "public void CuckooPages.seed(int,int)"
            + " throws java.lang.IllegalArgumentException,java.lang.IllegalStateException",
        "public int CuckooPages.put(int,int)",
        "public boolean CuckooPages.has(int)",
        "public int CuckooPages.get(int)",
        "public boolean CuckooPages.remove(int)",
        "public int CuckooPages.sync()",
        "public int CuckooPages.crash(int) throws java.lang.IllegalArgumentException",
        "public int CuckooPages.slot(int,int,int) throws java.lang.IllegalArgumentException",
        "public int CuckooPages.home(int,boolean)",
        "public int CuckooPages.reads(int)",
        "public int CuckooPages.count(int) throws java.lang.IllegalArgumentException");

    private FaceTest() {
    }

    public static void main(String[] args) {
        Set<String> seen = new TreeSet<>();
        seen.add(CuckooPages.class.toGenericString());
        for (Field field : CuckooPages.class.getDeclaredFields()) {
            addUnlessPrivate(seen, field.getModifiers(), field.toString());
            boolean state = Modifier.isStatic(field.getModifiers()) && !Modifier.isFinal(field.getModifiers());
            Check.due("static state: " + field, state, false);
        }
        for (Constructor<?> constructor : CuckooPages.class.getDeclaredConstructors()) {
            addUnlessPrivate(seen, constructor.getModifiers(), constructor.toString());
        }
        Set<String> publicNames = new TreeSet<>();
        for (Method method : CuckooPages.class.getMethods()) {
            if (method.getDeclaringClass() == CuckooPages.class) {
                publicNames.add(method.getName());
            }
        }
        for (Method method : CuckooPages.class.getDeclaredMethods()) {
            addUnlessPrivate(seen, method.getModifiers(), method.toString());
            boolean hides = Modifier.isPrivate(method.getModifiers()) && publicNames.contains(method.getName());
            Check.due("private with a public name: " + method, hides, false);
        }
        for (Class<?> inside : CuckooPages.class.getDeclaredClasses()) {
            Check.due("static class inside: " + inside, Modifier.isStatic(inside.getModifiers()), true);
        }
        Check.dueSame("the face", seen.toString(), new TreeSet<>(FACE).toString());
        Check.due("NONE", CuckooPages.NONE, -1);
        Check.due("FULL", CuckooPages.FULL, -2);
        Check.end();
    }

    private static void addUnlessPrivate(Set<String> seen, int modifiers, String member) {
        if (!Modifier.isPrivate(modifiers)) {
            seen.add(member);
        }
    }
}
