import java.util.NoSuchElementException;

/** The boundary cases of promise 6, mark; the words that name each are quoted above it. */
public final class Promise6BoundaryTest {
    private static final Check check = new Check();

    public static void main(String[] args) throws ReflectiveOperationException {
        check.runCases(Promise6BoundaryTest.class);
        check.finish();
    }

    /** The marks lie at 0, 20, 40, 50, 60, 70, 80, with the slots 0, 2, 4, 5, 1, 6, 3. */
    private static AgedMarks grown() {
        AgedMarks x = new AgedMarks(10, 2);
        x.run(84);
        return x;
    }

    private static void dueNone(AgedMarks x, int k) {
        check.dueRefused("mark(" + k + ", 0)", NoSuchElementException.class, x, () -> x.mark(k, 0));
        check.dueRefused("mark(" + k + ", 1)", NoSuchElementException.class, x, () -> x.mark(k, 1));
        check.dueRefused("mark(" + k + ", 2)", NoSuchElementException.class, x, () -> x.mark(k, 2));
    }

    private static void dueWrongWhat(AgedMarks x, int k, int what) {
        check.dueRefused("mark(" + k + ", " + what + ")", IllegalArgumentException.class, x, () -> x.mark(k, what));
    }

    /** "from the oldest (0) on": the first. */
    private static void oldestMarkIsTold() {
        AgedMarks x = grown();
        check.due("mark(0, 0)", x.mark(0, 0), 0);
        check.due("mark(0, 1)", x.mark(0, 1), 0);
        check.due("mark(0, 2)", x.mark(0, 2), 8);
    }

    /** "from the oldest (0) on": the last; no GAP lies between the newest and itself. */
    private static void newestMarkIsTold() {
        AgedMarks x = grown();
        check.due("mark(6, 0)", x.mark(6, 0), 80);
        check.due("mark(6, 1)", x.mark(6, 1), 3);
        check.due("mark(6, 2)", x.mark(6, 2), 0);
    }

    /** "from the oldest (0) on": it is oldest and newest at once. */
    private static void onlyMarkIsTold() {
        AgedMarks x = new AgedMarks(10, 2);
        check.due("mark(0, 0)", x.mark(0, 0), 0);
        check.due("mark(0, 1)", x.mark(0, 1), 0);
        check.due("mark(0, 2)", x.mark(0, 2), 0);
    }

    /** "NoSuchElementException when there is none": too small. */
    private static void placeOneBelowTheOldestIsRefused() {
        dueNone(grown(), -1);
    }

    /** "NoSuchElementException when there is none": far too small. */
    private static void placeFarBelowTheOldestIsRefused() {
        dueNone(grown(), Integer.MIN_VALUE);
        dueNone(grown(), -7);
    }

    /** "NoSuchElementException when there is none": too large. */
    private static void placeOneAboveTheNewestIsRefused() {
        dueNone(grown(), 7);
        dueNone(new AgedMarks(10, 2), 1);
    }

    /** "NoSuchElementException when there is none": far too large, also for a row of any length inside. */
    private static void placeFarAboveTheNewestIsRefused() {
        AgedMarks x = grown();
        for (int k = 8; k <= 40; k++) {
            int place = k;
            check.dueThrow("mark(" + k + ", 0)", NoSuchElementException.class, () -> x.mark(place, 0));
        }
        for (int power = 64; power <= 1 << 20; power *= 2) {
            int place = power;
            check.dueThrow("mark(" + place + ", 0)", NoSuchElementException.class, () -> x.mark(place, 0));
        }
        dueNone(grown(), Integer.MAX_VALUE);
    }

    /** "NoSuchElementException when there is none": any more, after a cut. */
    private static void placeOfAMarkThatACutTookIsRefused() {
        AgedMarks x = grown();
        x.go(40);
        x.cut();
        check.due("mark(2, 0)", x.mark(2, 0), 40);
        dueNone(x, 3);
        dueNone(x, 6);
    }

    /** "NoSuchElementException when there is none", and there are as many as there can be. */
    private static void placeOneAboveTheNewestOfAFullObjectIsRefused() {
        AgedMarks x = new AgedMarks(1, 16);
        for (int r = 0; r < 250; r++) {
            x.run(4000);
        }
        int held = (int) x.count(2);
        check.due("the newest's count", x.mark(held - 1, 0), 1000000);
        check.due("the newest's distance", x.mark(held - 1, 2), 0);
        check.dueThrow("one above", NoSuchElementException.class, () -> x.mark(held, 0));
        check.dueThrow("two above", NoSuchElementException.class, () -> x.mark(held + 1, 0));
        check.due("the oldest's distance", x.mark(0, 2), 1000000);
    }

    /** "IllegalArgumentException when what is none of these": too small. */
    private static void whatOneBelowZeroIsRefused() {
        dueWrongWhat(grown(), 0, -1);
        dueWrongWhat(grown(), 6, -1);
    }

    /** "IllegalArgumentException when what is none of these": too large. */
    private static void whatOneAboveTwoIsRefused() {
        dueWrongWhat(grown(), 0, 3);
        dueWrongWhat(grown(), 6, 3);
    }

    /** "IllegalArgumentException when what is none of these": far off. */
    private static void whatFarOffIsRefused() {
        dueWrongWhat(grown(), 3, Integer.MIN_VALUE);
        dueWrongWhat(grown(), 3, Integer.MAX_VALUE);
        dueWrongWhat(new AgedMarks(10, 2), 0, 6);
    }

    /** "NoSuchElementException when there is none; else IllegalArgumentException": both would do. */
    private static void missingMarkComesBeforeAWrongWhat() {
        AgedMarks x = grown();
        for (int k : new int[] {-1, 7, Integer.MIN_VALUE, Integer.MAX_VALUE}) {
            for (int what : new int[] {-1, 3, Integer.MIN_VALUE, Integer.MAX_VALUE}) {
                check.dueThrow("mark(" + k + ", " + what + ")", NoSuchElementException.class, () -> x.mark(k, what));
            }
        }
    }

    /** "between it and the newest one": the newest mark, not the END, which may lie whole GAPs behind it. */
    private static void distanceIsToTheNewestMarkThoughTheEndLiesGapsBehindIt() {
        AgedMarks x = grown();
        x.go(39);
        x.cut();
        check.due("mark(0, 2)", x.mark(0, 2), 2);
        check.due("mark(1, 2)", x.mark(1, 2), 0);
    }

    /** "its count": the greatest there is within 512 calls. */
    private static void countOfTheFarthestMarkIsTold() {
        AgedMarks x = new AgedMarks(1000, 16);
        for (int r = 0; r < 509; r++) {
            x.run(4000);
        }
        int newest = (int) x.count(2) - 1;
        check.due("the newest's count", x.mark(newest, 0), 2036000);
        check.due("the oldest's distance", x.mark(0, 2), 2036);
    }
}
