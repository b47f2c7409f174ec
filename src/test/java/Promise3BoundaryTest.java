/** The boundary cases of promise 3, go; the words that name each are quoted above it. */
public final class Promise3BoundaryTest {
    private static final Check check = new Check();

    public static void main(String[] args) throws ReflectiveOperationException {
        check.runCases(Promise3BoundaryTest.class);
        check.finish();
    }

    private static AgedMarks grown() {
        AgedMarks x = new AgedMarks(10, 2);
        x.run(84);
        x.go(33);
        return x;
    }

    /** "c is not 0 .. END": 0 is taken. */
    private static void countZeroIsTaken() {
        AgedMarks x = grown();
        check.due("go(0)", x.go(0), 0);
        check.due("count(0)", x.count(0), 0);
        check.due("count(1)", x.count(1), 84);
    }

    /** "c is not 0 .. END": the end itself is taken, from a NOW below it. */
    private static void countOnTheEndIsTaken() {
        AgedMarks x = grown();
        check.due("go(84)", x.go(84), 4);
        check.due("count(0)", x.count(0), 84);
        check.due("count(1)", x.count(1), 84);
    }

    /** "NOW becomes c": where it is already; that costs as from anywhere. */
    private static void countThatNowHasAlreadyCostsAgain() {
        AgedMarks x = grown();
        check.due("go(33)", x.go(33), 13);
        check.due("count(6)", x.count(6), 26);
    }

    /** "IllegalArgumentException when c is not 0 .. END": too small. */
    private static void countOneBelowZeroIsRefused() {
        AgedMarks x = grown();
        check.dueRefused("go(-1)", IllegalArgumentException.class, x, () -> x.go(-1));
    }

    /** "IllegalArgumentException when c is not 0 .. END": far too small, where an int would wrap round. */
    private static void countFarBelowZeroIsRefused() {
        AgedMarks x = grown();
        check.dueRefused("go(the least long)", IllegalArgumentException.class, x, () -> x.go(Long.MIN_VALUE));
        check.dueRefused("go(-2^32 + 5)", IllegalArgumentException.class, x, () -> x.go(-(1L << 32) + 5));
    }

    /** "IllegalArgumentException when c is not 0 .. END": too large, though far above NOW. */
    private static void countOneAboveTheEndIsRefused() {
        AgedMarks x = grown();
        check.dueRefused("go(85)", IllegalArgumentException.class, x, () -> x.go(85));
    }

    /** "IllegalArgumentException when c is not 0 .. END": far too large, where an int would wrap round. */
    private static void countFarAboveTheEndIsRefused() {
        AgedMarks x = grown();
        check.dueRefused("go(the greatest long)", IllegalArgumentException.class, x, () -> x.go(Long.MAX_VALUE));
        check.dueRefused("go(2^32 + 5)", IllegalArgumentException.class, x, () -> x.go((1L << 32) + 5));
    }

    /** "c is not 0 .. END", END being 0: there is 0 alone to go to. */
    private static void newObjectTakesZeroAlone() {
        AgedMarks x = new AgedMarks(1, 2);
        check.due("go(0)", x.go(0), 0);
        check.dueRefused("go(1)", IllegalArgumentException.class, x, () -> x.go(1));
        check.dueRefused("go(-1)", IllegalArgumentException.class, x, () -> x.go(-1));
    }

    /** "c is not 0 .. END": of the END that a cut has left. */
    private static void countOneAboveACutEndIsRefused() {
        AgedMarks x = grown();
        x.cut();
        check.dueRefused("go(34)", IllegalArgumentException.class, x, () -> x.go(34));
        check.due("go(33)", x.go(33), 13);
    }

    /** "c is not 0 .. END": the greatest END there is. */
    private static void countOnTheGreatestEndIsTaken() {
        AgedMarks x = new AgedMarks(2, 2);
        for (int r = 0; r < 500; r++) {
            x.run(4000);
        }
        check.due("go(1999999)", x.go(1999999), 1);
        check.due("go(2000000)", x.go(2000000), 0);
        check.dueThrow("go(2000001)", IllegalArgumentException.class, () -> x.go(2000001));
        check.due("count(0)", x.count(0), 2000000);
        check.due("count(6)", x.count(6), 1);
    }
}
