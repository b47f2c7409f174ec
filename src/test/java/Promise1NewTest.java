/** Promise 1: a new object, GAP held to 1 .. 1000 and RICH to 2 .. 16. */
public final class Promise1NewTest {
    private static final Check check = new Check();

    public static void main(String[] args) {
        newObject();
        gap(1, 1);
        gap(2, 2);
        gap(999, 999);
        gap(1000, 1000);
        gap(1001, 1000);
        gap(Integer.MAX_VALUE, 1000);
        gap(0, 1);
        gap(-1, 1);
        gap(Integer.MIN_VALUE, 1);
        rich(2, 2);
        rich(3, 3);
        rich(15, 15);
        rich(16, 16);
        rich(17, 16);
        rich(Integer.MAX_VALUE, 16);
        rich(1, 2);
        rich(0, 2);
        rich(-5, 2);
        rich(Integer.MIN_VALUE, 2);
        twoObjectsShareNothing();
        check.finish();
    }

    private static void newObject() {
        AgedMarks x = new AgedMarks(10, 2);
        check.dueCounts("new", x, 0, 0, 1, 1, 0, 0, 0);
        check.dueMarks("new", x, 0);
        check.dueSlots("new", x, 0);
        check.due("new: mark(0, 2)", x.mark(0, 2), 0);
        check.due("new: holder(0)", x.holder(0), 0);
        check.due("new: worst()", x.worst(), 0);
        check.due("NONE", AgedMarks.NONE, -1);
    }

    private static void gap(int given, int due) {
        AgedMarks x = new AgedMarks(given, 16);
        check.due("gap " + given + ": run(gap - 1)", x.run(due - 1), 0);
        check.due("gap " + given + ": run(1)", x.run(1), 1);
        check.due("gap " + given + ": mark(1, 0)", x.mark(1, 0), due);
        check.due("gap " + given + ": run(2 gaps)", x.run(2 * due), 2);
        check.dueMarks("gap " + given, x, 0, due, 2L * due, 3L * due);
    }

    /** Mark 1 is the first to go: when 2 * RICH + 1 is laid. */
    private static void rich(int given, int due) {
        AgedMarks x = new AgedMarks(1, given);
        x.run(2 * due);
        check.due("rich " + given + ": count(5) before", x.count(5), 0);
        check.due("rich " + given + ": mark(1, 0) before", x.mark(1, 0), 1);
        x.run(1);
        check.due("rich " + given + ": count(5) after", x.count(5), 1);
        check.due("rich " + given + ": mark(1, 0) after", x.mark(1, 0), 2);
    }

    private static void twoObjectsShareNothing() {
        AgedMarks x = new AgedMarks(1, 2);
        AgedMarks y = new AgedMarks(1, 2);
        x.run(50);
        x.back(3);
        check.dueCounts("the other one", y, 0, 0, 1, 1, 0, 0, 0);
        check.due("the other one: run(1)", y.run(1), 1);
        check.dueSlots("the other one", y, 0, 1);
    }
}
