/** The boundary cases of promise 2, run; the words that name each are quoted above it. */
public final class Promise2BoundaryTest {
    private static final Check check = new Check();

    public static void main(String[] args) throws ReflectiveOperationException {
        check.runCases(Promise2BoundaryTest.class);
        check.finish();
    }

    private static AgedMarks grown() {
        AgedMarks x = new AgedMarks(10, 2);
        x.run(84);
        x.go(33);
        return x;
    }

    private static AgedMarks atTheLimit(int gap) {
        AgedMarks x = new AgedMarks(gap, 2);
        int longest = Math.max(1, gap) * 250;
        for (int r = 0; r < longest; r++) {
            x.run(4000);
        }
        return x;
    }

    /** "n is not 0 .. 4000": the least is taken. */
    private static void lengthZeroIsTaken() {
        AgedMarks fresh = new AgedMarks(1, 2);
        check.due("new: run(0)", fresh.run(0), 0);
        check.dueCounts("new", fresh, 0, 0, 1, 1, 0, 0, 0);
        AgedMarks x = grown();
        String before = Check.state(x);
        check.due("run(0)", x.run(0), 0);
        check.dueTexts("after run(0)", Check.state(x), before);
    }

    /** "n is not 0 .. 4000": the greatest is taken. */
    private static void length4000IsTaken() {
        AgedMarks x = new AgedMarks(1, 2);
        check.due("run(4000)", x.run(4000), 4000);
        check.due("count(0)", x.count(0), 4000);
        check.due("count(1)", x.count(1), 4000);
    }

    /** "IllegalArgumentException when n is not 0 .. 4000": too small. */
    private static void lengthOneBelowZeroIsRefused() {
        AgedMarks x = grown();
        check.dueRefused("run(-1)", IllegalArgumentException.class, x, () -> x.run(-1));
    }

    /** "IllegalArgumentException when n is not 0 .. 4000": far too small. */
    private static void lengthFarBelowZeroIsRefused() {
        AgedMarks x = grown();
        check.dueRefused("run(-33)", IllegalArgumentException.class, x, () -> x.run(-33));
        check.dueRefused("run(-34)", IllegalArgumentException.class, x, () -> x.run(-34));
        check.dueRefused("run(the least int)", IllegalArgumentException.class, x, () -> x.run(Integer.MIN_VALUE));
    }

    /** "IllegalArgumentException when n is not 0 .. 4000": too large. */
    private static void length4001IsRefused() {
        AgedMarks x = grown();
        check.dueRefused("run(4001)", IllegalArgumentException.class, x, () -> x.run(4001));
    }

    /** "IllegalArgumentException when n is not 0 .. 4000": far too large, where NOW + n wraps round an int. */
    private static void lengthFarAbove4000IsRefused() {
        AgedMarks x = grown();
        check.dueRefused("run(1000000)", IllegalArgumentException.class, x, () -> x.run(1000000));
        check.dueRefused("run(the greatest int)", IllegalArgumentException.class, x, () -> x.run(Integer.MAX_VALUE));
    }

    /** A new object, where there is nothing yet, refuses as others do. */
    private static void wrongLengthIsRefusedByANewObject() {
        AgedMarks x = new AgedMarks(1, 2);
        check.dueRefused("run(-1)", IllegalArgumentException.class, x, () -> x.run(-1));
        check.dueRefused("run(4001)", IllegalArgumentException.class, x, () -> x.run(4001));
        check.due("run(1)", x.run(1), 1);
    }

    /** "and the END, too, if it is less then": it is one more. */
    private static void nowOneBelowTheEndLeavesTheEnd() {
        AgedMarks x = grown();
        check.due("run(50)", x.run(50), 0);
        check.due("count(0)", x.count(0), 83);
        check.due("count(1)", x.count(1), 84);
    }

    /** "and the END, too, if it is less then": it is the same. */
    private static void nowOnTheEndLeavesTheEnd() {
        AgedMarks x = grown();
        check.due("run(51)", x.run(51), 0);
        check.due("count(0)", x.count(0), 84);
        check.due("count(1)", x.count(1), 84);
        check.due("count(2)", x.count(2), 7);
    }

    /** "and the END, too, if it is less then": it is one less. */
    private static void nowOneAboveTheEndTakesTheEndAlong() {
        AgedMarks x = grown();
        check.due("run(52)", x.run(52), 0);
        check.due("count(0)", x.count(0), 85);
        check.due("count(1)", x.count(1), 85);
    }

    /** "how many marks were laid": those below the end, which now goes over again, are not among them. */
    private static void onlyMarksAboveTheOldEndAreLaid() {
        AgedMarks x = grown();
        check.due("run(56) to 89", x.run(56), 0);
        x.go(0);
        check.due("run(90)", x.run(90), 1);
        x.go(0);
        check.due("run(110)", x.run(110), 2);
    }

    /** "how many marks were laid": those count that went again within the run. */
    private static void laidMarksThatWentWithinTheRunAreTold() {
        AgedMarks x = new AgedMarks(1, 2);
        check.due("run(100)", x.run(100), 100);
        check.due("count(2)", x.count(2), 14);
    }

    /** "when NOW would be above 1000000 GAPs": on it is not above it. */
    private static void nowOnTheLimitIsTaken() {
        AgedMarks x = atTheLimit(1);
        check.due("count(0)", x.count(0), 1000000);
        check.due("count(4)", x.count(4), 1000000);
        check.due("run(0)", x.run(0), 0);
    }

    /** "IllegalStateException when NOW would be above 1000000 GAPs": by one. */
    private static void nowOneAboveTheLimitIsRefused() {
        AgedMarks x = atTheLimit(1);
        check.dueRefused("run(1)", IllegalStateException.class, x, () -> x.run(1));
    }

    /** "IllegalStateException when NOW would be above 1000000 GAPs": by the most there can be. */
    private static void nowFarAboveTheLimitIsRefused() {
        AgedMarks x = atTheLimit(1);
        check.dueRefused("run(4000)", IllegalStateException.class, x, () -> x.run(4000));
    }

    /** "when NOW would be above 1000000 GAPs": a run that only ends above it is not run in part. */
    private static void runOverTheLimitIsNotRunInPart() {
        AgedMarks x = atTheLimit(1);
        x.back(3999);
        check.dueRefused("run(4000)", IllegalStateException.class, x, () -> x.run(4000));
        check.due("run(3999)", x.run(3999), 0);
        check.due("count(0)", x.count(0), 1000000);
    }

    /** "when NOW would be above": it is NOW that counts, and the END stands on the limit unharmed. */
    private static void limitIsForNowNotForTheEnd() {
        AgedMarks x = atTheLimit(1);
        x.go(0);
        check.due("run(4000)", x.run(4000), 0);
        check.due("count(0)", x.count(0), 4000);
        check.due("count(1)", x.count(1), 1000000);
    }

    /** "above 1000000 GAPs": of the GAP that is held, where 0 or less was given. */
    private static void limitIsOfTheGapThatIsHeld() {
        AgedMarks x = atTheLimit(-7);
        check.due("count(0)", x.count(0), 1000000);
        check.dueRefused("run(1)", IllegalStateException.class, x, () -> x.run(1));
    }

    /** "above 1000000 GAPs": with GAP 2 that is 2000000. */
    private static void limitOfGapTwoIsTwoMillion() {
        AgedMarks x = atTheLimit(2);
        check.due("count(0)", x.count(0), 2000000);
        check.due("count(4)", x.count(4), 1000000);
        check.dueThrow("run(1)", IllegalStateException.class, () -> x.run(1));
        check.due("run(0)", x.run(0), 0);
        check.due("count(0)", x.count(0), 2000000);
    }

    /** "above 1000000 GAPs": with GAP 3 or more no run of 512 calls comes near it. */
    private static void limitOfGreaterGapsIsNeverReached() {
        for (int gap : new int[] {3, 1000, 1001}) {
            AgedMarks x = new AgedMarks(gap, 2);
            for (int r = 0; r < 511; r++) {
                x.run(4000);
            }
            check.due("gap " + gap + ": count(0)", x.count(0), 2044000);
        }
    }

    /** "IllegalArgumentException when ..; else IllegalStateException": both would do. */
    private static void wrongLengthComesBeforeTheLimit() {
        AgedMarks x = atTheLimit(1);
        check.dueThrow("run(4001)", IllegalArgumentException.class, () -> x.run(4001));
        check.dueThrow("run(the greatest int)", IllegalArgumentException.class, () -> x.run(Integer.MAX_VALUE));
        check.dueThrow("run(-1)", IllegalArgumentException.class, () -> x.run(-1));
        check.dueThrow("run(the least int)", IllegalArgumentException.class, () -> x.run(Integer.MIN_VALUE));
        check.due("count(0)", x.count(0), 1000000);
        check.due("count(1)", x.count(1), 1000000);
    }

    /** A full object takes up again what a cut has made room for, and not one more. */
    private static void cutBelowTheLimitMakesRoomForAsMuch() {
        AgedMarks x = atTheLimit(1);
        x.back(5);
        check.due("cut()", x.cut(), 5);
        check.dueThrow("run(6)", IllegalStateException.class, () -> x.run(6));
        check.due("run(5)", x.run(5), 5);
        check.dueThrow("run(1)", IllegalStateException.class, () -> x.run(1));
        check.due("count(4)", x.count(4), 1000005);
    }
}
