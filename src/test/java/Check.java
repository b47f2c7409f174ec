/** Counts the answers that are not as due, prints them, and ends a test with exit code 1 if there were any. */
final class Check {
    interface Call {
        long answer();
    }

    private int wrong = 0;

    void due(String call, long got, long want) {
        if (got != want) {
            tell(call + " answered " + got + ", due is " + want);
        }
    }

    void due(String call, boolean holds) {
        if (!holds) {
            tell(call + " does not hold");
        }
    }

    /** The very class is due, not one below it: the document names it. */
    void dueThrow(String call, Class<? extends RuntimeException> want, Call made) {
        long got;
        try {
            got = made.answer();
        } catch (RuntimeException e) {
            if (e.getClass() != want) {
                tell(call + " threw " + e + ", due is " + want.getName());
            }
            return;
        }
        tell(call + " answered " + got + ", due is " + want.getName());
    }

    /** What a call that throws must leave as it was. */
    void dueCounts(String when, AgedMarks x, long... want) {
        for (int what = 0; what < want.length; what++) {
            due(when + ": count(" + what + ")", x.count(what), want[what]);
        }
    }

    void dueMarks(String when, AgedMarks x, long... counts) {
        due(when + ": count(2)", x.count(2), counts.length);
        for (int k = 0; k < counts.length && k < x.count(2); k++) {
            due(when + ": mark(" + k + ", 0)", x.mark(k, 0), counts[k]);
        }
    }

    void dueSlots(String when, AgedMarks x, long... slots) {
        due(when + ": count(2)", x.count(2), slots.length);
        for (int k = 0; k < slots.length && k < x.count(2); k++) {
            due(when + ": mark(" + k + ", 1)", x.mark(k, 1), slots[k]);
        }
    }

    boolean failed() {
        return wrong > 0;
    }

    void finish() {
        System.out.println(wrong == 0 ? "all answers are as due" : wrong + " answers are not as due");
        if (wrong != 0) {
            System.exit(1);
        }
    }

    private void tell(String line) {
        wrong++;
        if (wrong <= 50) {
            System.out.println(line);
        }
    }
}
