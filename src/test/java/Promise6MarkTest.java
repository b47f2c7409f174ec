import java.util.NoSuchElementException;

/** Promise 6: mark. */
public final class Promise6MarkTest {
    private static final Check check = new Check();

    public static void main(String[] args) {
        tellsCountSlotAndDistance();
        distanceIsToTheNewestMarkNotTheEnd();
        refusesMarksThatAreNot();
        refusesOtherWhats();
        check.finish();
    }

    private static AgedMarks grown() {
        AgedMarks x = new AgedMarks(10, 2);
        x.run(84);
        return x;
    }

    private static void tellsCountSlotAndDistance() {
        AgedMarks x = grown();
        long[][] due = {{0, 0, 8}, {20, 2, 6}, {40, 4, 4}, {50, 5, 3}, {60, 1, 2}, {70, 6, 1}, {80, 3, 0}};
        for (int k = 0; k < due.length; k++) {
            for (int what = 0; what < 3; what++) {
                check.due("mark(" + k + ", " + what + ")", x.mark(k, what), due[k][what]);
            }
        }
    }

    private static void distanceIsToTheNewestMarkNotTheEnd() {
        AgedMarks x = grown();
        x.go(39);
        x.cut();
        check.due("mark(0, 2)", x.mark(0, 2), 2);
        check.due("mark(1, 2)", x.mark(1, 2), 0);
    }

    private static void refusesMarksThatAreNot() {
        AgedMarks x = grown();
        int[] wrong = {-1, 7, 8, 319, 320, 321, Integer.MIN_VALUE, Integer.MAX_VALUE};
        int[] whats = {0, 1, 2, 3, -1, Integer.MAX_VALUE};
        for (int k : wrong) {
            for (int what : whats) {
                check.dueThrow("mark(" + k + ", " + what + ")", NoSuchElementException.class, () -> x.mark(k, what));
            }
        }
        x.go(0);
        x.cut();
        check.dueThrow("cut: mark(1, 0)", NoSuchElementException.class, () -> x.mark(1, 0));
        check.due("cut: mark(0, 0)", x.mark(0, 0), 0);
    }

    private static void refusesOtherWhats() {
        AgedMarks x = grown();
        int[] wrong = {-1, 3, 4, Integer.MIN_VALUE, Integer.MAX_VALUE};
        for (int what : wrong) {
            check.dueThrow("mark(0, " + what + ")", IllegalArgumentException.class, () -> x.mark(0, what));
            check.dueThrow("mark(6, " + what + ")", IllegalArgumentException.class, () -> x.mark(6, what));
        }
        check.dueCounts("after wrong calls", x, 84, 84, 7, 7, 8, 2, 0);
    }
}
