/** The boundary cases of promise 7, holder; the words that name each are quoted above it. */
public final class Promise7BoundaryTest {
    private static final Check check = new Check();

    public static void main(String[] args) throws ReflectiveOperationException {
        check.runCases(Promise7BoundaryTest.class);
        check.finish();
    }

    /** The marks lie at 0, 20, 40, 50, 60, 70, with the slots 0, 2, 4, 5, 1, 6; slot 3 is free. */
    private static AgedMarks grown() {
        AgedMarks x = new AgedMarks(10, 2);
        x.run(74);
        return x;
    }

    /** "from the oldest on": mark 0 has slot 0 and keeps it. */
    private static void leastSlotIsTheOldestMarks() {
        check.due("new: holder(0)", new AgedMarks(10, 2).holder(0), 0);
        check.due("holder(0)", grown().holder(0), 0);
    }

    /** "from the oldest on": the place among the marks is told, not the mark's number. */
    private static void greatestSlotThatIsTakenTellsItsPlace() {
        check.due("holder(6)", grown().holder(6), 5);
        check.due("holder(1)", grown().holder(1), 4);
    }

    /** "NONE when none has": one that was freed, below others that are taken. */
    private static void freedSlotHasNone() {
        check.due("holder(3)", grown().holder(3), AgedMarks.NONE);
    }

    /** "NONE when none has": one that no mark ever had. */
    private static void slotOneAboveTheGreatestHasNone() {
        check.due("new: holder(1)", new AgedMarks(10, 2).holder(1), AgedMarks.NONE);
        check.due("holder(7)", grown().holder(7), AgedMarks.NONE);
    }

    /** "NONE when none has": too small, and NONE is no slot either. */
    private static void slotBelowZeroHasNone() {
        AgedMarks x = grown();
        check.due("holder(-1)", x.holder(-1), AgedMarks.NONE);
        check.due("holder(-64)", x.holder(-64), AgedMarks.NONE);
        check.due("holder(the least int)", x.holder(Integer.MIN_VALUE), AgedMarks.NONE);
    }

    /** "NONE when none has": far too large, also for a row of any length inside. */
    private static void slotFarAboveTheGreatestHasNone() {
        AgedMarks x = grown();
        for (int slot = 8; slot < 400; slot++) {
            check.due("holder(" + slot + ")", x.holder(slot), AgedMarks.NONE);
        }
        for (int slot = 1 << 9; slot > 0; slot *= 2) {
            check.due("holder(" + slot + ")", x.holder(slot), AgedMarks.NONE);
        }
        check.due("holder(the greatest int)", x.holder(Integer.MAX_VALUE), AgedMarks.NONE);
    }

    /** "NONE when none has": any more, after a cut. */
    private static void slotThatACutFreedHasNone() {
        AgedMarks x = grown();
        x.go(50);
        x.cut();
        check.due("holder(5), on the end", x.holder(5), 3);
        check.due("holder(1)", x.holder(1), AgedMarks.NONE);
        check.due("holder(6)", x.holder(6), AgedMarks.NONE);
    }

    /** "NONE when none has": only slot 0 is taken after a cut at 0. */
    private static void cutAtZeroLeavesSlotZeroAlone() {
        AgedMarks x = grown();
        x.go(0);
        x.cut();
        check.due("holder(0)", x.holder(0), 0);
        for (int slot = 1; slot <= 7; slot++) {
            check.due("holder(" + slot + ")", x.holder(slot), AgedMarks.NONE);
        }
    }

    /** "Which mark has a slot": in a full object each one's slot leads back to it. */
    private static void everySlotOfAFullObjectLeadsToItsMark() {
        for (int from = 0; from < 300; from += 100) {
            AgedMarks x = new AgedMarks(1, 16);
            for (int r = 0; r < 250; r++) {
                x.run(4000);
            }
            int held = (int) x.count(2);
            for (int k = from; k < held && k < from + 100; k++) {
                check.due("holder(mark(" + k + ", 1))", x.holder((int) x.mark(k, 1)), k);
            }
        }
    }
}
