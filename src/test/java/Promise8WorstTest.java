/** Promise 8: worst. */
public final class Promise8WorstTest {
    private static final Check check = new Check();

    public static void main(String[] args) {
        worstAsItGrows();
        worstBehindTheNewestMark();
        isTheDearestOfAllGoings();
        check.finish();
    }

    private static void worstAsItGrows() {
        AgedMarks x = new AgedMarks(10, 2);
        check.due("new", x.worst(), 0);
        x.run(1);
        check.due("at 1", x.worst(), 1);
        x.run(8);
        check.due("at 9", x.worst(), 9);
        x.run(1);
        check.due("at 10", x.worst(), 9);
        x.run(39);
        check.due("at 49", x.worst(), 9);
        x.run(1);
        check.due("at 50, mark 10 gone", x.worst(), 19);
        x.go(3);
        check.due("after going back", x.worst(), 19);
        check.due("costs nothing: count(6)", x.count(6), 3);

        AgedMarks y = new AgedMarks(1, 16);
        y.run(20);
        check.due("gap 1: nothing between marks", y.worst(), 0);
    }

    private static void worstBehindTheNewestMark() {
        AgedMarks x = new AgedMarks(1, 2);
        x.run(100);
        // At 100 the marks lie at 0, 32, 48 and on: going to 31 is the dearest.
        check.due("at 100", x.worst(), 31);
        x.go(20);
        x.cut();
        check.due("cut at 20", x.worst(), 20);
        x.run(1);
        check.due("at 21", x.worst(), 20);
    }

    private static void isTheDearestOfAllGoings() {
        for (int end = 0; end <= 150; end += 7) {
            AgedMarks x = new AgedMarks(3, 2);
            x.run(150);
            x.go(end);
            x.cut();
            long worst = 0;
            for (int c = 0; c <= end; c++) {
                worst = Math.max(worst, x.go(c));
            }
            check.due("cut at " + end, x.worst(), worst);
        }
    }
}
