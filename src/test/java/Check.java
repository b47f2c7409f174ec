import java.lang.reflect.Method;
import java.lang.reflect.Modifier;
import java.util.Arrays;
import java.util.Comparator;

/** Counts the answers that are not as due, prints them, and ends a test with exit code 1 if there were any. */
final class Check {
    interface Call {
        long answer();
    }

    private int wrong = 0;
    private String caseName = "";

    /**
     * Runs each case of a test class, a static method without parameters, under its own name, so that a wrong
     * answer tells the promise and the case, and no case can be written and then forgotten.
     */
    void runCases(Class<?> test) throws ReflectiveOperationException {
        Method[] methods = test.getDeclaredMethods();
        Arrays.sort(methods, Comparator.comparing(Method::getName));
        int cases = 0;
        for (Method m : methods) {
            if (Modifier.isStatic(m.getModifiers()) && !m.isSynthetic() && m.getParameterCount() == 0
                && m.getReturnType() == void.class) {
                caseName = test.getName() + "." + m.getName() + ": ";
                m.setAccessible(true);
                m.invoke(null);
                cases++;
            }
        }
        caseName = "";
        System.out.println(cases + " cases");
        due("a test class has cases", cases > 0);
    }

    void due(String call, long got, long want) {
        if (got != want) {
            tell(call + " answered " + got + ", due is " + want);
        }
    }

    void due(String call, boolean holds) {
        if (!holds) {
            tell(call + " does not hold");
        }
    }

    /** The very class is due, not one below it: the document names it. */
    void dueThrow(String call, Class<? extends RuntimeException> want, Call made) {
        long got;
        try {
            got = made.answer();
        } catch (RuntimeException e) {
            if (e.getClass() != want) {
                tell(call + " threw " + e + ", due is " + want.getName());
            }
            return;
        }
        tell(call + " answered " + got + ", due is " + want.getName());
    }

    /** What a call that throws must leave as it was. */
    void dueCounts(String when, AgedMarks x, long... want) {
        for (int what = 0; what < want.length; what++) {
            due(when + ": count(" + what + ")", x.count(what), want[what]);
        }
    }

    void dueMarks(String when, AgedMarks x, long... counts) {
        due(when + ": count(2)", x.count(2), counts.length);
        for (int k = 0; k < counts.length && k < x.count(2); k++) {
            due(when + ": mark(" + k + ", 0)", x.mark(k, 0), counts[k]);
        }
    }

    void dueSlots(String when, AgedMarks x, long... slots) {
        due(when + ": count(2)", x.count(2), slots.length);
        for (int k = 0; k < slots.length && k < x.count(2); k++) {
            due(when + ": mark(" + k + ", 1)", x.mark(k, 1), slots[k]);
        }
    }

    void dueTexts(String what, String got, String want) {
        if (!got.equals(want)) {
            tell(what + " is " + got + ", due is " + want);
        }
    }

    /** A call that is refused throws what is due and leaves all as it was. */
    void dueRefused(String call, Class<? extends RuntimeException> want, AgedMarks x, Call made) {
        String before = state(x);
        dueThrow(call, want, made);
        dueTexts(call + ": what it leaves", state(x), before);
    }

    /** All that an object tells without being changed: some 10 calls and 2 for each mark. */
    static String state(AgedMarks x) {
        StringBuilder s = new StringBuilder("counts");
        for (int what = 0; what <= 6; what++) {
            s.append(' ').append(x.count(what));
        }
        s.append(", worst ").append(x.worst()).append(", marks");
        long held = x.count(2);
        for (int k = 0; k < held; k++) {
            s.append(' ').append(x.mark(k, 0)).append('/').append(x.mark(k, 1));
        }
        return s.toString();
    }

    boolean failed() {
        return wrong > 0;
    }

    void finish() {
        System.out.println(wrong == 0 ? "all answers are as due" : wrong + " answers are not as due");
        if (wrong != 0) {
            System.exit(1);
        }
    }

    private void tell(String line) {
        wrong++;
        if (wrong <= 50) {
            System.out.println(caseName + line);
        }
    }
}
