/** The boundary cases of promise 8, worst; the words that name each are quoted above it. */
public final class Promise8BoundaryTest {
    private static final Check check = new Check();

    public static void main(String[] args) throws ReflectiveOperationException {
        check.runCases(Promise8BoundaryTest.class);
        check.finish();
    }

    private static AgedMarks run(int gap, int rich, int n) {
        AgedMarks x = new AgedMarks(gap, rich);
        x.run(n);
        return x;
    }

    /** "any count 0 .. END": there is 0 alone. */
    private static void newObjectCostsNothing() {
        check.due("worst()", new AgedMarks(1000, 2).worst(), 0);
    }

    /** "any count 0 .. END": the end itself is among them, here the dearest. */
    private static void endBehindTheNewestMarkIsAmongTheCounts() {
        check.due("at 1", run(1000, 2, 1).worst(), 1);
        check.due("at 500", run(1000, 2, 500).worst(), 500);
    }

    /** "any count 0 .. END": none behind the end is. */
    private static void endOneBeforeAMultipleCostsAWholeGapLessOne() {
        check.due("at 999", run(1000, 2, 999).worst(), 999);
        check.due("at 998", run(1000, 2, 998).worst(), 998);
    }

    /** "the greatest cost": the end costs nothing now, the count before it still does. */
    private static void endOnAMarkLeavesTheCountBeforeIt() {
        check.due("at 1000", run(1000, 2, 1000).worst(), 999);
        check.due("at 1001", run(1000, 2, 1001).worst(), 999);
    }

    /** "the greatest cost": every count has a mark of its own. */
    private static void gapOneUnthinnedCostsNothing() {
        check.due("at 32", run(1, 16, 32).worst(), 0);
        check.due("at 4", run(1, 2, 4).worst(), 0);
    }

    /** "the greatest cost": the first mark that goes leaves the first count that costs. */
    private static void gapOneWithTheFirstMarkGoneCostsOne() {
        check.due("at 33", run(1, 16, 33).worst(), 1);
        check.due("at 5", run(1, 2, 5).worst(), 1);
    }

    /** "any count 0 .. END": NOW has no part in it. */
    private static void nowDoesNotMatter() {
        AgedMarks x = run(10, 2, 84);
        x.go(0);
        check.due("at 0", x.worst(), 19);
        x.go(39);
        check.due("at 39", x.worst(), 19);
        AgedMarks y = run(1000, 2, 500);
        y.go(3);
        check.due("the end the dearest, at 3", y.worst(), 500);
    }

    /** "0 .. END": of the END that a cut has left, behind which nothing counts. */
    private static void cutEndBoundsTheCounts() {
        AgedMarks x = run(10, 2, 84);
        x.go(18);
        x.cut();
        check.due("cut at 18", x.worst(), 18);
        x.go(0);
        x.cut();
        check.due("cut at 0", x.worst(), 0);
    }

    /** "the greatest cost": a cut in the midst of thinned marks leaves the end farther from one than a GAP. */
    private static void cutEndCanBeTheDearestCount() {
        AgedMarks x = run(1, 2, 100);
        x.go(63);
        x.cut();
        check.dueMarks("cut at 63", x, 0, 32, 48);
        check.due("cut at 63", x.worst(), 31);
        x.go(62);
        x.cut();
        check.due("cut at 62", x.worst(), 31);
        x.go(40);
        x.cut();
        check.due("cut at 40", x.worst(), 31);
        x.go(31);
        x.cut();
        check.due("cut at 31", x.worst(), 31);
        x.go(30);
        x.cut();
        check.due("cut at 30", x.worst(), 30);
    }

    /** "the greatest cost": of a full object, that of its widest space. */
    private static void fullObjectCostsItsWidestSpace() {
        // The greatest j with RICH * 2^j within 1000000, and mark 2^j itself is at least that old.
        int[] rich = {2, 4, 8, 16};
        long[] space = {262144, 131072, 65536, 32768};
        for (int i = 0; i < rich.length; i++) {
            AgedMarks x = new AgedMarks(1, rich[i]);
            for (int r = 0; r < 250; r++) {
                x.run(4000);
            }
            check.due("rich " + rich[i] + ": mark(1, 0)", x.mark(1, 0), space[i]);
            check.due("rich " + rich[i] + ": worst()", x.worst(), space[i] - 1);
            check.due("rich " + rich[i] + ": go there", x.go(space[i] - 1), space[i] - 1);
        }
    }

    /** worst() tells a cost and goes nowhere. */
    private static void askingChangesNothing() {
        AgedMarks x = run(10, 2, 84);
        x.go(33);
        String before = Check.state(x);
        x.worst();
        check.dueTexts("after worst()", Check.state(x), before);
        check.due("count(6)", x.count(6), 13);
    }
}
