/** Promise 2: run, and with it how marks are laid, get their slots and go. */
public final class Promise2RunTest {
    private static final Check check = new Check();

    public static void main(String[] args) {
        laysAtMultiples();
        thinsBehind();
        slotsAreTheLeastFree();
        doesNotLayWhatTheEndHasReached();
        goesOverTheEndFromBehind();
        laysAnewAfterACut();
        refusesWrongLengths();
        refusesAboveTheMostGaps();
        wrongLengthComesBeforeTheLimit();
        check.finish();
    }

    private static void laysAtMultiples() {
        AgedMarks x = new AgedMarks(10, 2);
        check.due("run(0)", x.run(0), 0);
        check.due("run(9)", x.run(9), 0);
        check.dueMarks("at 9", x, 0);
        check.due("run(1)", x.run(1), 1);
        check.dueMarks("at 10", x, 0, 10);
        check.due("run(0) on a mark", x.run(0), 0);
        check.due("run(9) behind a mark", x.run(9), 0);
        check.due("run(11)", x.run(11), 2);
        check.dueMarks("at 30", x, 0, 10, 20, 30);
        check.dueCounts("at 30", x, 30, 30, 4, 4, 3, 0, 0);
        check.due("run(4000)", x.run(4000), 400);
        check.due("at 4030: count(1)", x.count(1), 4030);
    }

    private static void thinsBehind() {
        AgedMarks x = new AgedMarks(1, 2);
        x.run(4);
        check.dueMarks("at 4", x, 0, 1, 2, 3, 4);
        x.run(1);
        check.dueMarks("at 5", x, 0, 2, 3, 4, 5);
        x.run(1);
        check.dueMarks("at 6", x, 0, 2, 3, 4, 5, 6);
        x.run(1);
        check.dueMarks("at 7", x, 0, 2, 4, 5, 6, 7);
        x.run(3);
        check.dueMarks("at 10", x, 0, 4, 6, 7, 8, 9, 10);
        x.run(10);
        check.dueMarks("at 20", x, 0, 8, 12, 14, 16, 17, 18, 19, 20);

        AgedMarks y = new AgedMarks(3, 3);
        y.run(60);
        check.dueMarks("gap 3, rich 3 at 60", y, 0, 12, 24, 30, 36, 42, 45, 48, 51, 54, 57, 60);
    }

    private static void slotsAreTheLeastFree() {
        AgedMarks x = new AgedMarks(1, 2);
        x.run(4);
        check.dueSlots("at 4", x, 0, 1, 2, 3, 4);
        // Mark 5 gets its slot before mark 1 goes, so slot 1 falls to mark 6.
        x.run(1);
        check.dueSlots("at 5", x, 0, 2, 3, 4, 5);
        x.run(1);
        check.dueSlots("at 6", x, 0, 2, 3, 4, 5, 1);
        x.run(1);
        check.dueSlots("at 7", x, 0, 2, 4, 5, 1, 6);
        x.run(1);
        check.dueSlots("at 8", x, 0, 2, 4, 5, 1, 6, 3);
    }

    private static void doesNotLayWhatTheEndHasReached() {
        AgedMarks x = new AgedMarks(1, 2);
        x.run(20);
        x.go(0);
        check.due("run(20) below the end", x.run(20), 0);
        check.dueCounts("below the end", x, 20, 20, 9, 9, 20, 12, 0);
        x.go(5);
        check.due("run(10) below the end", x.run(10), 0);
        check.due("count(0)", x.count(0), 15);
        check.due("count(1)", x.count(1), 20);
    }

    private static void goesOverTheEndFromBehind() {
        AgedMarks x = new AgedMarks(10, 2);
        x.run(25);
        x.back(10);
        check.due("run(14)", x.run(14), 0);
        check.due("count(1)", x.count(1), 29);
        x.go(3);
        check.due("run(38)", x.run(38), 2);
        check.dueMarks("at 41", x, 0, 10, 20, 30, 40);
        check.due("count(0)", x.count(0), 41);
        check.due("count(1)", x.count(1), 41);
    }

    private static void laysAnewAfterACut() {
        AgedMarks x = new AgedMarks(1, 2);
        x.run(20);
        x.go(13);
        x.cut();
        check.dueMarks("cut at 13", x, 0, 8, 12);
        // Mark 13 went and the end still stands on its count: it does not come back.
        check.due("run(0)", x.run(0), 0);
        check.due("run(1)", x.run(1), 1);
        check.dueMarks("at 14", x, 0, 8, 12, 14);
        check.due("run(6)", x.run(6), 6);
        check.dueMarks("at 20", x, 0, 8, 12, 14, 16, 17, 18, 19, 20);
        x.go(10);
        x.cut();
        check.due("run(2) over 11 and 12", x.run(2), 2);
        check.dueMarks("at 12", x, 0, 8, 11, 12);
    }

    private static void refusesWrongLengths() {
        AgedMarks x = new AgedMarks(7, 3);
        x.run(30);
        x.go(25);
        int[] wrong = {-1, -4000, Integer.MIN_VALUE, 4001, 4002, Integer.MAX_VALUE};
        for (int n : wrong) {
            check.dueThrow("run(" + n + ")", IllegalArgumentException.class, () -> x.run(n));
        }
        check.dueCounts("after wrong runs", x, 25, 30, 5, 5, 4, 0, 4);
        check.due("run(4000)", x.run(4000), 571);
    }

    private static void refusesAboveTheMostGaps() {
        AgedMarks x = new AgedMarks(1, 2);
        for (int r = 0; r < 249; r++) {
            x.run(4000);
        }
        check.due("run(3999)", x.run(3999), 3999);
        check.dueThrow("run(2) over the limit", IllegalStateException.class, () -> x.run(2));
        check.dueThrow("run(4000) over the limit", IllegalStateException.class, () -> x.run(4000));
        check.due("count(0)", x.count(0), 999999);
        check.due("count(1)", x.count(1), 999999);
        check.due("run(1) to the limit", x.run(1), 1);
        check.dueThrow("run(1) at the limit", IllegalStateException.class, () -> x.run(1));
        check.due("run(0) at the limit", x.run(0), 0);
        check.due("count(4)", x.count(4), 1000000);
        x.back(10);
        check.due("run(10) to the limit", x.run(10), 0);
        x.back(10);
        check.dueThrow("run(11) from behind", IllegalStateException.class, () -> x.run(11));
        check.due("count(0)", x.count(0), 999990);
        x.cut();
        check.due("run(10) after a cut", x.run(10), 10);
        check.dueThrow("run(1) after a cut", IllegalStateException.class, () -> x.run(1));

        // The limit is one of GAPs, not of counts.
        AgedMarks y = new AgedMarks(2, 2);
        for (int r = 0; r < 500; r++) {
            y.run(4000);
        }
        check.due("gap 2: count(0)", y.count(0), 2000000);
        check.dueThrow("gap 2: run(1)", IllegalStateException.class, () -> y.run(1));
    }

    private static void wrongLengthComesBeforeTheLimit() {
        AgedMarks x = new AgedMarks(1, 16);
        for (int r = 0; r < 250; r++) {
            x.run(4000);
        }
        check.dueThrow("run(4001) at the limit", IllegalArgumentException.class, () -> x.run(4001));
        check.dueThrow("run(-1) at the limit", IllegalArgumentException.class, () -> x.run(-1));
        check.dueThrow("run(4000) at the limit", IllegalStateException.class, () -> x.run(4000));
    }
}
