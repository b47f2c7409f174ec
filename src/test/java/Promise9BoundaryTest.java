/** The boundary cases of promise 9, count; the words that name each are quoted above it. */
public final class Promise9BoundaryTest {
    private static final Check check = new Check();

    public static void main(String[] args) throws ReflectiveOperationException {
        check.runCases(Promise9BoundaryTest.class);
        check.finish();
    }

    private static AgedMarks grown() {
        AgedMarks x = new AgedMarks(10, 2);
        x.run(84);
        return x;
    }

    /** "NONE for others": too small. */
    private static void whatOneBelowZeroIsNone() {
        check.due("count(-1)", grown().count(-1), AgedMarks.NONE);
    }

    /** "NONE for others": too large. */
    private static void whatOneAboveSixIsNone() {
        check.due("count(7)", grown().count(7), AgedMarks.NONE);
        check.due("new: count(7)", new AgedMarks(10, 2).count(7), AgedMarks.NONE);
    }

    /** "NONE for others": far off. */
    private static void whatFarOffIsNone() {
        check.due("count(the least int)", grown().count(Integer.MIN_VALUE), AgedMarks.NONE);
        check.due("count(the greatest int)", grown().count(Integer.MAX_VALUE), AgedMarks.NONE);
        for (int what = 8; what <= 300; what++) {
            check.due("count(" + what + ")", new AgedMarks(1, 2).count(what), AgedMarks.NONE);
        }
    }

    /** "0 NOW, 1 END": they part by going back and meet again by a cut. */
    private static void nowAndEndAreTwoCounts() {
        AgedMarks x = grown();
        x.back(84);
        check.due("count(0)", x.count(0), 0);
        check.due("count(1)", x.count(1), 84);
        x.cut();
        check.due("cut: count(1)", x.count(1), 0);
    }

    /** "how many marks there are": mark 0 is one, and never fewer. */
    private static void marksAreNeverFewerThanOne() {
        AgedMarks x = new AgedMarks(10, 2);
        check.due("new: count(2)", x.count(2), 1);
        x.run(84);
        x.go(0);
        x.cut();
        check.due("cut at 0: count(2)", x.count(2), 1);
    }

    /** "the most there ever were (1 at first)". */
    private static void mostIsOneAtFirst() {
        AgedMarks x = new AgedMarks(10, 2);
        check.due("new: count(3)", x.count(3), 1);
        x.run(9);
        check.due("before a mark is laid: count(3)", x.count(3), 1);
        x.run(1);
        check.due("after one is laid: count(3)", x.count(3), 2);
    }

    /** "after a mark was laid and others went": not in between. */
    private static void mostIsNotTakenBeforeOthersWent() {
        AgedMarks x = new AgedMarks(1, 2);
        x.run(4);
        check.due("at 4: count(3)", x.count(3), 5);
        x.run(1);
        check.due("at 5, six in between: count(3)", x.count(3), 5);
        x.run(1);
        check.due("at 6: count(3)", x.count(3), 6);
    }

    /** "the most there ever were": a cut does not make it less. */
    private static void mostStaysAfterACut() {
        AgedMarks x = grown();
        x.go(0);
        x.cut();
        check.due("cut: count(3)", x.count(3), 7);
        x.run(50);
        check.due("fewer laid anew: count(3)", x.count(3), 7);
        x.run(34);
        check.due("as many laid anew: count(3)", x.count(3), 7);
        x.run(36);
        check.due("more laid anew: count(3)", x.count(3), 8);
    }

    /** "marks that were laid": mark 0 was not. */
    private static void laidLeavesOutMarkZero() {
        AgedMarks x = new AgedMarks(10, 2);
        check.due("new: count(4)", x.count(4), 0);
        x.run(10);
        check.due("at 10: count(4)", x.count(4), 1);
    }

    /** "marks that were laid": one that is laid anew after a cut counts again. */
    private static void laidCountsAMarkAgainThatIsLaidAnew() {
        AgedMarks x = new AgedMarks(10, 2);
        for (int r = 1; r <= 5; r++) {
            x.run(10);
            x.back(10);
            x.cut();
            check.due("round " + r + ": count(4)", x.count(4), r);
            check.due("round " + r + ": count(5)", x.count(5), r);
        }
    }

    /** "that went (by a cut, too)". */
    private static void goneCountsThoseThatACutTook() {
        AgedMarks x = grown();
        check.due("of age: count(5)", x.count(5), 2);
        x.go(60);
        x.cut();
        check.due("by a cut, too: count(5)", x.count(5), 4);
    }

    /** What was laid, with mark 0, is there or went: at the greatest growth, too. */
    private static void laidAreThereOrWent() {
        AgedMarks x = new AgedMarks(1, 16);
        for (int r = 0; r < 250; r++) {
            x.run(4000);
        }
        check.due("count(4)", x.count(4), 1000000);
        check.due("count(2) + count(5)", x.count(2) + x.count(5), 1000001);
    }

    /** "the sum of all costs told by go() and back()": run(), cut() and worst() add none. */
    private static void costsOfOtherCallsAreNone() {
        AgedMarks x = grown();
        x.worst();
        x.cut();
        check.due("count(6)", x.count(6), 0);
    }

    /** "all costs told": a call that throws tells none. */
    private static void costsOfRefusedCallsAreNone() {
        AgedMarks x = grown();
        check.dueThrow("go(85)", IllegalArgumentException.class, () -> x.go(85));
        check.dueThrow("go(-1)", IllegalArgumentException.class, () -> x.go(-1));
        check.dueThrow("back(-1)", IllegalArgumentException.class, () -> x.back(-1));
        check.due("count(6)", x.count(6), 0);
        check.due("count(0)", x.count(0), 84);
    }

    /** "the sum of all costs": the greatest there can be within 512 calls is told without loss. */
    private static void costsAddUpToTheMost() {
        AgedMarks x = new AgedMarks(1, 2);
        for (int r = 0; r < 250; r++) {
            x.run(4000);
        }
        for (int r = 1; r <= 200; r++) {
            check.due("go(262143)", x.go(262143), 262143);
        }
        check.due("count(6)", x.count(6), 52428600);
        for (int r = 1; r <= 50; r++) {
            check.due("back(0)", x.back(0), 262143);
        }
        check.due("count(6)", x.count(6), 65535750);
    }
}
