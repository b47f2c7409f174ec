import java.lang.reflect.Constructor;
import java.lang.reflect.Field;
import java.lang.reflect.Method;
import java.lang.reflect.Modifier;
import java.util.Arrays;
import java.util.Set;
import java.util.TreeSet;

/** The public face is the document's, to the letter, and nothing else of the class can be seen from outside. */
public final class FaceTest {
    private static final Check check = new Check();

    public static void main(String[] args) {
        Set<String> due = new TreeSet<>(Arrays.asList(
            "public static final int AgedMarks.NONE",
            "public AgedMarks(int,int)",
            "public int AgedMarks.run(int) throws java.lang.IllegalArgumentException,java.lang.IllegalStateException",
            "public long AgedMarks.go(long) throws java.lang.IllegalArgumentException",
            "public long AgedMarks.back(long) throws java.lang.IllegalArgumentException",
            "public int AgedMarks.cut()",
            "public long AgedMarks.mark(int,int) throws java.util.NoSuchElementException,"
                + "java.lang.IllegalArgumentException",
            "public int AgedMarks.holder(int)",
            "public long AgedMarks.worst()",
            "public long AgedMarks.count(int)"));
        Set<String> seen = new TreeSet<>();
        Class<AgedMarks> face = AgedMarks.class;
        for (Field f : face.getDeclaredFields()) {
            see(seen, f.getModifiers(), f.toGenericString());
            check.due(f + " is final if static", !Modifier.isStatic(f.getModifiers())
                || Modifier.isFinal(f.getModifiers()));
        }
        for (Constructor<?> c : face.getDeclaredConstructors()) {
            see(seen, c.getModifiers(), c.toGenericString());
        }
        for (Method m : face.getDeclaredMethods()) {
            see(seen, m.getModifiers(), m.toGenericString());
        }
        check.due("the face " + seen, seen.equals(due));
        check.due("the class is public and final", Modifier.isPublic(face.getModifiers())
            && Modifier.isFinal(face.getModifiers()));
        check.due("NONE", AgedMarks.NONE, -1);
        privateMethodsBearNamesOfTheirOwn(face);
        classesInsideAreHiddenAndStatic(face);
        check.finish();
    }

    private static void privateMethodsBearNamesOfTheirOwn(Class<?> face) {
        Set<String> names = new TreeSet<>();
        for (Method m : face.getMethods()) {
            names.add(m.getName());
        }
        for (Method m : face.getDeclaredMethods()) {
            check.due(m + " bears no public method's name", !Modifier.isPrivate(m.getModifiers())
                || !names.contains(m.getName()));
        }
    }

    private static void classesInsideAreHiddenAndStatic(Class<?> face) {
        for (Class<?> c : face.getDeclaredClasses()) {
            int m = c.getModifiers();
            check.due(c + " is static and not to be seen", Modifier.isStatic(m)
                && !Modifier.isPublic(m) && !Modifier.isProtected(m));
        }
    }

    private static void see(Set<String> seen, int modifiers, String text) {
        if (!Modifier.isPrivate(modifiers)) {
            seen.add(text);
        }
    }
}
