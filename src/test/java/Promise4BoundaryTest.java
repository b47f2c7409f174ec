/** The boundary cases of promise 4, back; the words that name each are quoted above it. */
public final class Promise4BoundaryTest {
    private static final Check check = new Check();

    public static void main(String[] args) throws ReflectiveOperationException {
        check.runCases(Promise4BoundaryTest.class);
        check.finish();
    }

    private static AgedMarks grown() {
        AgedMarks x = new AgedMarks(10, 2);
        x.run(84);
        x.go(33);
        return x;
    }

    private static void dueZero(String call, AgedMarks x, long n) {
        check.due(call, x.back(n), 0);
        check.due(call + ": count(0)", x.count(0), 0);
        check.due(call + ": count(1)", x.count(1), 84);
        check.due(call + ": count(6)", x.count(6), 13);
    }

    /** "n is below 0": 0 is not; NOW stays and going there costs. */
    private static void wayOfZeroIsTakenAndCosts() {
        AgedMarks x = grown();
        check.due("back(0)", x.back(0), 13);
        check.due("count(0)", x.count(0), 33);
        check.due("count(6)", x.count(6), 26);
    }

    /** "or 0, if it is less than n": it is one more than n. */
    private static void wayOneShorterThanNowLeavesOne() {
        AgedMarks x = grown();
        check.due("back(32)", x.back(32), 1);
        check.due("count(0)", x.count(0), 1);
    }

    /** "or 0, if it is less than n": it is n. */
    private static void wayAsLongAsNowLeadsToZero() {
        dueZero("back(33)", grown(), 33);
    }

    /** "or 0, if it is less than n": by one. */
    private static void wayOneLongerThanNowLeadsToZero() {
        dueZero("back(34)", grown(), 34);
    }

    /** "or 0, if it is less than n": by far, where NOW - n or an int would wrap round. */
    private static void wayFarLongerThanNowLeadsToZero() {
        dueZero("back(the greatest long)", grown(), Long.MAX_VALUE);
        dueZero("back(2^32)", grown(), 1L << 32);
        dueZero("back(2^32 + 3)", grown(), (1L << 32) + 3);
        dueZero("back(2^31)", grown(), 1L << 31);
    }

    /** "IllegalArgumentException when n is below 0": by one, though the END would allow it. */
    private static void wayOneBelowZeroIsRefused() {
        AgedMarks x = grown();
        check.dueRefused("back(-1)", IllegalArgumentException.class, x, () -> x.back(-1));
    }

    /** "IllegalArgumentException when n is below 0": by far, where NOW - n or an int would wrap round. */
    private static void wayFarBelowZeroIsRefused() {
        AgedMarks x = grown();
        check.dueRefused("back(the least long)", IllegalArgumentException.class, x, () -> x.back(Long.MIN_VALUE));
        check.dueRefused("back(-2^32)", IllegalArgumentException.class, x, () -> x.back(-(1L << 32)));
        check.dueRefused("back(-2^32 + 3)", IllegalArgumentException.class, x, () -> x.back(-(1L << 32) + 3));
    }

    /** "or 0, if it is less than n": from 0. */
    private static void newObjectStaysAtZero() {
        AgedMarks x = new AgedMarks(1, 2);
        check.due("back(0)", x.back(0), 0);
        check.due("back(1)", x.back(1), 0);
        check.due("back(the greatest long)", x.back(Long.MAX_VALUE), 0);
        check.dueRefused("back(-1)", IllegalArgumentException.class, x, () -> x.back(-1));
        check.dueCounts("new", x, 0, 0, 1, 1, 0, 0, 0);
    }

    /** "NOW becomes n less": it is NOW that is gone back from, not the END. */
    private static void wayIsFromNowNotFromTheEnd() {
        AgedMarks x = grown();
        check.due("back(13)", x.back(13), 0);
        check.due("count(0)", x.count(0), 20);
    }

    /** "what going there costs": one back from a mark is the whole way from the mark before. */
    private static void wayOfOneFromAMarkCostsFromTheMarkBefore() {
        AgedMarks x = grown();
        x.go(20);
        check.due("back(1)", x.back(1), 19);
    }
}
