/** Promise 5: cut. */
public final class Promise5CutTest {
    private static final Check check = new Check();

    public static void main(String[] args) {
        cutsNothingAtTheEnd();
        keepsAMarkOnTheNewEnd();
        cutsBetweenMarks();
        cutsAllButMarkZero();
        freesSlots();
        check.finish();
    }

    private static AgedMarks grown() {
        AgedMarks x = new AgedMarks(10, 2);
        x.run(84);
        // The marks lie at 0, 20, 40, 50, 60, 70, 80, with the slots 0, 2, 4, 5, 1, 6, 3.
        return x;
    }

    private static void cutsNothingAtTheEnd() {
        AgedMarks fresh = new AgedMarks(10, 2);
        check.due("new: cut()", fresh.cut(), 0);
        check.dueCounts("new, cut", fresh, 0, 0, 1, 1, 0, 0, 0);
        AgedMarks x = grown();
        check.due("at the end: cut()", x.cut(), 0);
        check.dueCounts("at the end", x, 84, 84, 7, 7, 8, 2, 0);
        x.back(3);
        check.due("behind the newest mark: cut()", x.cut(), 0);
        check.due("count(1)", x.count(1), 81);
    }

    private static void keepsAMarkOnTheNewEnd() {
        AgedMarks x = grown();
        x.go(60);
        check.due("on a mark: cut()", x.cut(), 2);
        check.dueMarks("on a mark", x, 0, 20, 40, 50, 60);
        check.dueCounts("on a mark", x, 60, 60, 5, 7, 8, 4, 0);
        x.go(59);
        check.due("before a mark: cut()", x.cut(), 1);
        check.dueMarks("before a mark", x, 0, 20, 40, 50);
    }

    private static void cutsBetweenMarks() {
        AgedMarks x = grown();
        x.go(33);
        check.due("cut()", x.cut(), 5);
        check.dueMarks("between marks", x, 0, 20);
        check.dueCounts("between marks", x, 33, 33, 2, 7, 8, 7, 13);
        check.due("worst()", x.worst(), 19);
        check.due("mark(0, 2)", x.mark(0, 2), 2);
        check.due("again: cut()", x.cut(), 0);
        check.due("again: count(5)", x.count(5), 7);
    }

    private static void cutsAllButMarkZero() {
        AgedMarks x = grown();
        x.go(0);
        check.due("at 0: cut()", x.cut(), 6);
        check.dueMarks("at 0", x, 0);
        check.dueCounts("at 0", x, 0, 0, 1, 7, 8, 8, 0);
        check.due("worst()", x.worst(), 0);
        check.due("run(30)", x.run(30), 3);
        check.dueSlots("grown anew", x, 0, 1, 2, 3);
        check.due("grown anew: count(4)", x.count(4), 11);
        check.due("grown anew: count(3)", x.count(3), 7);
    }

    private static void freesSlots() {
        AgedMarks x = grown();
        x.go(55);
        x.cut();
        check.dueSlots("cut", x, 0, 2, 4, 5);
        check.due("holder(1)", x.holder(1), -1);
        check.due("holder(3)", x.holder(3), -1);
        check.due("holder(6)", x.holder(6), -1);
        x.run(25);
        // 60, 70 and 80 are laid; nothing goes, as the marks 1 and 3 went before.
        check.dueSlots("grown anew", x, 0, 2, 4, 5, 1, 3, 6);
    }
}
