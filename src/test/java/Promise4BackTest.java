/** Promise 4: back. */
public final class Promise4BackTest {
    private static final Check check = new Check();

    public static void main(String[] args) {
        goesBackFromNow();
        stopsAtZero();
        refusesBelowZero();
        check.finish();
    }

    private static void goesBackFromNow() {
        AgedMarks x = new AgedMarks(10, 2);
        x.run(84);
        // The marks lie at 0, 20, 40, 50, 60, 70, 80.
        check.due("back(0)", x.back(0), 4);
        check.due("count(6)", x.count(6), 4);
        check.due("back(4)", x.back(4), 0);
        check.due("count(0)", x.count(0), 80);
        check.due("back(1)", x.back(1), 9);
        check.due("back(40)", x.back(40), 19);
        check.due("count(0)", x.count(0), 39);
        check.due("back(19)", x.back(19), 0);
        check.due("back(1)", x.back(1), 19);
        check.dueCounts("at 19", x, 19, 84, 7, 7, 8, 2, 51);
    }

    private static void stopsAtZero() {
        AgedMarks x = new AgedMarks(10, 2);
        check.due("new: back(0)", x.back(0), 0);
        check.due("new: back(1)", x.back(1), 0);
        x.run(15);
        check.due("back(14)", x.back(14), 1);
        check.due("count(0)", x.count(0), 1);
        x.go(15);
        check.due("back(15)", x.back(15), 0);
        check.due("count(0)", x.count(0), 0);
        x.go(15);
        check.due("back(16)", x.back(16), 0);
        check.due("count(0)", x.count(0), 0);
        x.go(15);
        check.due("back(the greatest long)", x.back(Long.MAX_VALUE), 0);
        check.due("count(0)", x.count(0), 0);
        x.go(15);
        check.due("back(2^32)", x.back(1L << 32), 0);
        check.due("count(0)", x.count(0), 0);
        check.due("count(1)", x.count(1), 15);
        check.due("count(6)", x.count(6), 21);
    }

    private static void refusesBelowZero() {
        AgedMarks x = new AgedMarks(10, 2);
        x.run(15);
        long[] wrong = {-1, -15, Long.MIN_VALUE, -(1L << 32)};
        for (long n : wrong) {
            check.dueThrow("back(" + n + ")", IllegalArgumentException.class, () -> x.back(n));
        }
        check.dueCounts("after wrong calls", x, 15, 15, 2, 2, 1, 0, 0);
    }
}
