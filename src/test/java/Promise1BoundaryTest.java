/** The boundary cases of promise 1, a new object; the words that name each are quoted above it. */
public final class Promise1BoundaryTest {
    private static final Check check = new Check();

    public static void main(String[] args) throws ReflectiveOperationException {
        check.runCases(Promise1BoundaryTest.class);
        check.finish();
    }

    private static void dueGap(int given, int due) {
        AgedMarks x = new AgedMarks(given, 2);
        check.due("gap " + given + ": run(due - 1)", x.run(due - 1), 0);
        check.due("gap " + given + ": run(1)", x.run(1), 1);
        check.due("gap " + given + ": mark(1, 0)", x.mark(1, 0), due);
    }

    /** With RICH r mark 1 is the first to go, when mark 2 * r + 1 is laid. */
    private static void dueRich(int given, int due) {
        AgedMarks x = new AgedMarks(1, given);
        x.run(2 * due);
        check.due("rich " + given + ": count(5) at 2 * RICH", x.count(5), 0);
        x.run(1);
        check.due("rich " + given + ": count(5) at 2 * RICH + 1", x.count(5), 1);
    }

    /** "or the nearest of 1 .. 1000": too small. */
    private static void gapOneBelowTheLeastIsOne() {
        dueGap(0, 1);
    }

    /** "or the nearest of 1 .. 1000": far too small. */
    private static void gapFarBelowTheLeastIsOne() {
        dueGap(-1, 1);
        dueGap(-1000, 1);
        dueGap(Integer.MIN_VALUE, 1);
        dueGap(Integer.MIN_VALUE + 1, 1);
    }

    /** "GAP is this": the least. */
    private static void gapLeastIsKept() {
        dueGap(1, 1);
        dueGap(2, 2);
    }

    /** "GAP is this": the greatest. */
    private static void gapGreatestIsKept() {
        dueGap(1000, 1000);
        dueGap(999, 999);
    }

    /** "or the nearest of 1 .. 1000": too large. */
    private static void gapOneAboveTheGreatestIsOneThousand() {
        dueGap(1001, 1000);
    }

    /** "or the nearest of 1 .. 1000": far too large. */
    private static void gapFarAboveTheGreatestIsOneThousand() {
        dueGap(4000, 1000);
        dueGap(Integer.MAX_VALUE, 1000);
    }

    /** "RICH likewise of 2 .. 16": too small. */
    private static void richOneBelowTheLeastIsTwo() {
        dueRich(1, 2);
    }

    /** "RICH likewise of 2 .. 16": far too small. */
    private static void richFarBelowTheLeastIsTwo() {
        dueRich(0, 2);
        dueRich(-1, 2);
        dueRich(-16, 2);
        dueRich(Integer.MIN_VALUE, 2);
    }

    /** "RICH likewise": the least. */
    private static void richLeastIsKept() {
        dueRich(2, 2);
        dueRich(3, 3);
    }

    /** "RICH likewise": the greatest. */
    private static void richGreatestIsKept() {
        dueRich(16, 16);
        dueRich(15, 15);
    }

    /** "RICH likewise of 2 .. 16": too large. */
    private static void richOneAboveTheGreatestIsSixteen() {
        dueRich(17, 16);
    }

    /** "RICH likewise of 2 .. 16": far too large. */
    private static void richFarAboveTheGreatestIsSixteen() {
        dueRich(1000, 16);
        dueRich(Integer.MAX_VALUE, 16);
    }

    /** Each is held to its own bounds: 2 .. 16 is not GAP's, and 1 .. 1000 not RICH's. */
    private static void bothWrongAtOnceAreHeldEachToItsOwnBounds() {
        AgedMarks small = new AgedMarks(Integer.MIN_VALUE, Integer.MIN_VALUE);
        small.run(5);
        check.dueMarks("both too small", small, 0, 2, 3, 4, 5);

        AgedMarks large = new AgedMarks(Integer.MAX_VALUE, Integer.MAX_VALUE);
        for (int r = 0; r < 8; r++) {
            check.due("both too large: run(4000)", large.run(4000), 4);
        }
        check.due("both too large: count(5) at 32 GAPs", large.count(5), 0);
        check.due("both too large: run(1000)", large.run(1000), 1);
        check.due("both too large: count(5) at 33 GAPs", large.count(5), 1);
        check.due("both too large: mark(1, 0)", large.mark(1, 0), 2000);
    }

    /** A new object is empty but for mark 0. */
    private static void newObjectHasMarkZeroAlone() {
        check.dueTexts("new", Check.state(new AgedMarks(3, 3)), "counts 0 0 1 1 0 0 0, worst 0, marks 0/0");
    }

    private static void newObjectSharesNothingWithAnotherOne() {
        AgedMarks x = new AgedMarks(1, 2);
        AgedMarks y = new AgedMarks(1, 2);
        x.run(4000);
        x.go(1);
        check.dueTexts("the other one", Check.state(y), "counts 0 0 1 1 0 0 0, worst 0, marks 0/0");
    }
}
