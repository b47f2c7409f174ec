/** The boundary cases of promise 5, cut; the words that name each are quoted above it. */
public final class Promise5BoundaryTest {
    private static final Check check = new Check();

    public static void main(String[] args) throws ReflectiveOperationException {
        check.runCases(Promise5BoundaryTest.class);
        check.finish();
    }

    /** The marks lie at 0, 20, 40, 50, 60, 70, 80, with the slots 0, 2, 4, 5, 1, 6, 3. */
    private static AgedMarks grownAndGoneTo(long c) {
        AgedMarks x = new AgedMarks(10, 2);
        x.run(84);
        x.go(c);
        return x;
    }

    /** "The END becomes NOW": both are 0. */
    private static void cutOfANewObjectChangesNothing() {
        AgedMarks x = new AgedMarks(10, 2);
        String before = Check.state(x);
        check.due("cut()", x.cut(), 0);
        check.dueTexts("after cut()", Check.state(x), before);
    }

    /** "The END becomes NOW": it is already. */
    private static void cutAtTheEndChangesNothing() {
        AgedMarks x = grownAndGoneTo(84);
        String before = Check.state(x);
        check.due("cut()", x.cut(), 0);
        check.dueTexts("after cut()", Check.state(x), before);
    }

    /** "The END becomes NOW": once it is, a second cut finds nothing. */
    private static void secondCutChangesNothing() {
        AgedMarks x = grownAndGoneTo(33);
        check.due("cut()", x.cut(), 5);
        String before = Check.state(x);
        check.due("cut() again", x.cut(), 0);
        check.dueTexts("after cut() again", Check.state(x), before);
    }

    /** "marks behind it go": there is none behind the newest. */
    private static void cutBehindTheNewestMarkTakesNone() {
        AgedMarks x = grownAndGoneTo(81);
        check.due("cut()", x.cut(), 0);
        check.dueTexts("after cut()", Check.state(x),
            "counts 81 81 7 7 8 2 1, worst 19, marks 0/0 20/2 40/4 50/5 60/1 70/6 80/3");
    }

    /** "marks behind it go": one that lies on it does not. */
    private static void cutOnAMarkLeavesThatMark() {
        AgedMarks x = grownAndGoneTo(80);
        check.due("at 80: cut()", x.cut(), 0);
        check.due("at 80: count(1)", x.count(1), 80);
        AgedMarks y = grownAndGoneTo(50);
        check.due("at 50: cut()", y.cut(), 3);
        check.dueTexts("at 50", Check.state(y), "counts 50 50 4 7 8 5 0, worst 19, marks 0/0 20/2 40/4 50/5");
    }

    /** "marks behind it go": one that lies one behind it does. */
    private static void cutOneBeforeAMarkTakesThatMark() {
        AgedMarks x = grownAndGoneTo(79);
        check.due("at 79: cut()", x.cut(), 1);
        AgedMarks y = grownAndGoneTo(49);
        check.due("at 49: cut()", y.cut(), 4);
        check.dueTexts("at 49", Check.state(y), "counts 49 49 3 7 8 6 9, worst 19, marks 0/0 20/2 40/4");
    }

    /** "marks behind it go": all but mark 0, which never lies behind. */
    private static void cutAtZeroLeavesMarkZeroAlone() {
        AgedMarks x = grownAndGoneTo(0);
        check.due("cut()", x.cut(), 6);
        check.dueTexts("after cut()", Check.state(x), "counts 0 0 1 7 8 8 0, worst 0, marks 0/0");
    }

    /** "marks behind it go": at 1 mark 0 is the newest. */
    private static void cutAtOneLeavesMarkZeroAlone() {
        AgedMarks x = grownAndGoneTo(1);
        check.due("cut()", x.cut(), 6);
        check.dueTexts("after cut()", Check.state(x), "counts 1 1 1 7 8 8 1, worst 1, marks 0/0");
    }

    /** "how many": of a full object, all that there are but mark 0. */
    private static void cutOfAFullObjectTellsAllThatWent() {
        for (int rich = 2; rich <= 16; rich += 7) {
            AgedMarks x = new AgedMarks(1, rich);
            for (int r = 0; r < 250; r++) {
                x.run(4000);
            }
            long held = x.count(2);
            x.go(0);
            check.due("rich " + rich + ": cut()", x.cut(), held - 1);
            check.due("rich " + rich + ": count(2)", x.count(2), 1);
            check.due("rich " + rich + ": count(5)", x.count(5), 1000000);
            check.due("rich " + rich + ": run(4000)", x.run(4000), 4000);
        }
    }

    /** "marks behind it go", and by the terms their slots with them. */
    private static void cutFreesTheSlotsOfTheMarksThatWent() {
        AgedMarks x = grownAndGoneTo(60);
        x.cut();
        check.due("holder(1), on the end", x.holder(1), 4);
        check.due("holder(6), behind it", x.holder(6), AgedMarks.NONE);
        check.due("holder(3), behind it", x.holder(3), AgedMarks.NONE);
    }

    /** "The END becomes NOW": NOW itself and the costs stay. */
    private static void cutLeavesNowAndCostsNothing() {
        AgedMarks x = grownAndGoneTo(33);
        x.cut();
        check.due("count(0)", x.count(0), 33);
        check.due("count(6)", x.count(6), 13);
    }
}
