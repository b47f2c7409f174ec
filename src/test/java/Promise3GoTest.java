/** Promise 3: go. */
public final class Promise3GoTest {
    private static final Check check = new Check();

    public static void main(String[] args) {
        costsFromTheMarkBefore();
        refusesOutsideTheEnd();
        afterACut();
        check.finish();
    }

    private static void costsFromTheMarkBefore() {
        AgedMarks x = new AgedMarks(10, 2);
        x.run(84);
        // The marks lie at 0, 20, 40, 50, 60, 70, 80.
        long[] to = {0, 1, 19, 20, 21, 39, 40, 49, 50, 80, 84, 33};
        long[] cost = {0, 1, 19, 0, 1, 19, 0, 9, 0, 0, 4, 13};
        long sum = 0;
        for (int i = 0; i < to.length; i++) {
            sum += cost[i];
            check.due("go(" + to[i] + ")", x.go(to[i]), cost[i]);
            check.due("go(" + to[i] + "): count(0)", x.count(0), to[i]);
            check.due("go(" + to[i] + "): count(6)", x.count(6), sum);
        }
        check.due("count(1)", x.count(1), 84);
        check.due("count(2)", x.count(2), 7);
        check.due("to the same count again", x.go(33), 13);
    }

    private static void refusesOutsideTheEnd() {
        AgedMarks fresh = new AgedMarks(1, 2);
        check.dueThrow("new: go(1)", IllegalArgumentException.class, () -> fresh.go(1));
        check.due("new: go(0)", fresh.go(0), 0);

        AgedMarks x = new AgedMarks(10, 2);
        x.run(25);
        x.go(12);
        long[] wrong = {-1, 26, Long.MIN_VALUE, Long.MAX_VALUE, 1L << 32, -(1L << 32)};
        for (long c : wrong) {
            check.dueThrow("go(" + c + ")", IllegalArgumentException.class, () -> x.go(c));
        }
        check.dueCounts("after wrong calls", x, 12, 25, 3, 3, 2, 0, 2);
        check.due("go(25) above now", x.go(25), 5);
    }

    private static void afterACut() {
        AgedMarks x = new AgedMarks(10, 2);
        x.run(84);
        x.go(33);
        x.cut();
        check.dueThrow("go(34)", IllegalArgumentException.class, () -> x.go(34));
        check.due("go(33)", x.go(33), 13);
    }
}
