/** The boundary cases of "What it is" and "Terms", sentence by sentence; each is quoted above its case. */
public final class TermsBoundaryTest {
    private static final int LIMIT = 1000000;
    private static final Check check = new Check();

    public static void main(String[] args) throws ReflectiveOperationException {
        check.runCases(TermsBoundaryTest.class);
        check.finish();
    }

    /** Gone to and back to the end, with GAP 1: it costs nothing if there is a mark, and else something. */
    private static boolean isThere(AgedMarks x, long i) {
        long end = x.count(1);
        long cost = x.go(i);
        x.go(end);
        return cost == 0;
    }

    private static void growTo(AgedMarks x, long to) {
        for (long left = to - x.count(1); left > 0; left -= 4000) {
            x.run((int) Math.min(left, 4000));
        }
    }

    private static AgedMarks full(int rich) {
        AgedMarks x = new AgedMarks(1, rich);
        growTo(x, LIMIT);
        return x;
    }

    /** "at most 512 calls": the last of them, after the longest runs there are. */
    private static void call512StillHoldsAfterTheLongestRuns() {
        AgedMarks x = new AgedMarks(1000, 2);
        for (int call = 1; call < 512; call++) {
            check.due("call " + call + ": run(4000)", x.run(4000), 4);
        }
        check.due("call 512: count(1)", x.count(1), 2044000);

        AgedMarks y = new AgedMarks(4, 16);
        for (int call = 1; call < 512; call++) {
            y.run(4000);
        }
        check.due("call 512: run(4000)", y.run(4000), 1000);
    }

    /** "at most 512 calls": the dearest use, laid and cut again and again. */
    private static void call512StillHoldsAfterGrowingAndCutting() {
        AgedMarks x = new AgedMarks(1, 16);
        long gone = 0;
        long held = 0;
        for (int call = 1; call + 3 <= 511; call += 3) {
            check.due("call " + call + ": run(4000)", x.run(4000), 4000);
            x.back(4000);
            held = x.cut();
            gone += 4000;
        }
        check.due("held before the cut", held > 100);
        check.due("call 511: count(5)", x.count(5), gone);
        check.due("call 512: count(4)", x.count(4), gone);
    }

    /** "both are 0 at first". */
    private static void endAndNowAreZeroAtFirst() {
        AgedMarks x = new AgedMarks(1000, 16);
        check.due("count(0)", x.count(0), 0);
        check.due("count(1)", x.count(1), 0);
    }

    /** "mark 0 is there from the beginning on": before a run, and it is not laid by the first one. */
    private static void markZeroIsThereFromTheBeginning() {
        AgedMarks x = new AgedMarks(5, 2);
        check.dueMarks("new", x, 0);
        check.due("run(0)", x.run(0), 0);
        check.due("run(4)", x.run(4), 0);
        check.dueMarks("at 4", x, 0);
        check.due("count(4)", x.count(4), 0);
    }

    /** "mark 0 is there from the beginning on": as a multiple of every 2^j it does not even go of age. */
    private static void markZeroStaysAtTheGreatestAge() {
        for (int rich = 2; rich <= 16; rich++) {
            AgedMarks x = full(rich);
            check.due("rich " + rich + ": mark(0, 0)", x.mark(0, 0), 0);
            check.due("rich " + rich + ": mark(0, 1)", x.mark(0, 1), 0);
            check.due("rich " + rich + ": mark(0, 2)", x.mark(0, 2), LIMIT);
        }
    }

    /** "the least number that no other mark has when it is laid": those that go then still have theirs. */
    private static void slotOfAMarkThatGoesThenIsNotFreeYet() {
        AgedMarks x = new AgedMarks(1, 2);
        x.run(4);
        check.dueSlots("at 4", x, 0, 1, 2, 3, 4);
        x.run(1);
        check.dueSlots("at 5, mark 1 with slot 1 gone", x, 0, 2, 3, 4, 5);
    }

    /** "the least number that no other mark has": of two that are free the lesser one first. */
    private static void leastOfSeveralFreeSlotsIsTakenFirst() {
        AgedMarks x = new AgedMarks(10, 2);
        x.run(84);
        check.dueSlots("at 84", x, 0, 2, 4, 5, 1, 6, 3);
        x.go(59);
        x.cut();
        check.dueSlots("1, 3 and 6 free", x, 0, 2, 4, 5);
        x.run(1);
        check.dueSlots("1 taken", x, 0, 2, 4, 5, 1);
        x.run(10);
        check.dueSlots("3 taken", x, 0, 2, 4, 5, 1, 3);
        x.run(10);
        check.dueSlots("6 taken", x, 0, 2, 4, 5, 1, 3, 6);
    }

    /** "the least number that no other mark has": no free one among those there were, so a new one. */
    private static void newSlotIsOneAboveAllIfNoneIsFree() {
        AgedMarks x = new AgedMarks(1, 16);
        x.run(32);
        for (int k = 0; k <= 32; k++) {
            check.due("mark(" + k + ", 1)", x.mark(k, 1), k);
        }
    }

    /** "the least number that no other mark has", with as many marks as there can be. */
    private static void slotsOfAFullObjectAreAllDifferent() {
        AgedMarks x = full(16);
        int held = (int) x.count(2);
        check.due("held", held > 256);
        boolean[] seen = new boolean[1000];
        for (int k = 0; k < held && k < 255; k++) {
            int slot = (int) x.mark(k, 1);
            check.due("mark(" + k + ", 1) of its own", slot >= 0 && slot <= held && !seen[slot]);
            seen[Math.floorMod(slot, 1000)] = true;
        }
    }

    /** "goes, and its slot with it": all slots of a full object but mark 0's are free after a cut at 0. */
    private static void slotsOfAFullObjectAreFreeAfterACut() {
        AgedMarks x = full(16);
        long held = x.count(2);
        x.go(0);
        check.due("cut()", x.cut(), held - 1);
        x.run(32);
        for (int k = 0; k <= 32; k++) {
            check.due("mark(" + k + ", 1)", x.mark(k, 1), k);
        }
    }

    /** "goes, and its slot with it": the next mark gets it, if it is the least. */
    private static void slotOfAMarkThatWentIsFreeForTheNext() {
        AgedMarks x = new AgedMarks(1, 2);
        x.run(5);
        check.due("holder(1)", x.holder(1), AgedMarks.NONE);
        x.run(1);
        check.due("holder(1)", x.holder(1), 5);
        check.due("mark(5, 0)", x.mark(5, 0), 6);
    }

    /** "when the end grows over a multiple of GAP": to one before it lays nothing. */
    private static void endOneBeforeAMultipleLaysNothing() {
        AgedMarks x = new AgedMarks(1000, 2);
        check.due("run(999)", x.run(999), 0);
        check.dueMarks("at 999", x, 0);
    }

    /** "when the end grows over a multiple of GAP": to it is over it. */
    private static void endOnAMultipleLaysItsMark() {
        AgedMarks x = new AgedMarks(1000, 2);
        check.due("run(1000)", x.run(1000), 1);
        check.dueMarks("at 1000", x, 0, 1000);
    }

    /** "that it had not reached": the end stands on a multiple and grows on. */
    private static void endGrowingFromAMultipleDoesNotLayItAgain() {
        AgedMarks x = new AgedMarks(10, 2);
        x.run(10);
        check.due("run(1)", x.run(1), 0);
        check.due("run(8)", x.run(8), 0);
        check.dueMarks("at 19", x, 0, 10);
    }

    /** "that it had not reached": now goes over it again, the end does not. */
    private static void nowGoingOverAMultipleAgainLaysNothing() {
        AgedMarks x = new AgedMarks(10, 2);
        x.run(25);
        x.go(0);
        check.due("run(25)", x.run(25), 0);
        check.dueCounts("at 25 again", x, 25, 25, 3, 3, 2, 0, 0);
    }

    /** "RICH * 2^j <= n - i": at one less the mark stays, at the same it goes; for every RICH and every j. */
    private static void markGoesExactlyAtRichTimesAPowerOfTwo() {
        for (int rich = 2; rich <= 16; rich++) {
            AgedMarks x = new AgedMarks(1, rich);
            for (long power = 2; power / 2 + rich * power <= LIMIT; power *= 2) {
                long i = power / 2;
                growTo(x, i + rich * power - 1);
                check.due("rich " + rich + ": mark " + i + " there one before", isThere(x, i));
                x.run(1);
                check.due("rich " + rich + ": mark " + i + " gone", !isThere(x, i));
            }
        }
    }

    /** "if i is no multiple of 2^j": a multiple stays at the very age at which others go. */
    private static void multipleOfThePowerStaysAtThatAge() {
        for (int rich = 2; rich <= 16; rich++) {
            AgedMarks x = new AgedMarks(1, rich);
            for (long power = 2; power + rich * power <= LIMIT; power *= 2) {
                growTo(x, power + rich * power);
                check.due("rich " + rich + ": mark " + power + " there", isThere(x, power));
            }
        }
    }

    /** "(0 if there is none)": nearer than RICH, and up to one below 2 * RICH, no mark goes. */
    private static void noMarkGoesWhereThereIsNoPower() {
        for (int rich = 2; rich <= 16; rich++) {
            AgedMarks x = new AgedMarks(1, rich);
            for (int n = 1; n <= 2 * rich; n++) {
                x.run(1);
                check.due("rich " + rich + " at " + n + ": count(2)", x.count(2), n + 1);
            }
            x.run(1);
            check.due("rich " + rich + " at 2 * RICH + 1: count(2)", x.count(2), 2 * rich + 1);
        }
    }

    /** "One multiple after the other": one run over many leaves what as many runs over one leave. */
    private static void oneRunOverManyIsAsManyRunsOverOne() {
        for (int rich = 2; rich <= 16; rich++) {
            AgedMarks one = new AgedMarks(7, rich);
            AgedMarks many = new AgedMarks(7, rich);
            check.due("rich " + rich + ": run(2100)", one.run(2100), 300);
            for (int r = 0; r < 300; r++) {
                check.due("rich " + rich + ": run(7)", many.run(7), 1);
            }
            check.dueTexts("rich " + rich, Check.state(one), Check.state(many));
        }
    }

    /** "One multiple after the other": a mark is laid and goes within one run, and both are counted. */
    private static void markCanBeLaidAndGoInOneRun() {
        AgedMarks x = new AgedMarks(1, 2);
        check.due("run(5)", x.run(5), 5);
        check.dueCounts("at 5", x, 5, 5, 5, 5, 5, 1, 0);
        check.dueMarks("at 5", x, 0, 2, 3, 4, 5);
    }

    /** "does not come back but by a cut": not by going back and over it again. */
    private static void markThatWentDoesNotComeBackByRunning() {
        AgedMarks x = new AgedMarks(1, 2);
        x.run(7);
        check.dueMarks("at 7", x, 0, 2, 4, 5, 6, 7);
        x.go(0);
        check.due("run(7)", x.run(7), 0);
        check.dueMarks("at 7 again", x, 0, 2, 4, 5, 6, 7);
    }

    /** "does not come back but by a cut and growing anew": the cut alone brings none. */
    private static void markThatWentDoesNotComeBackByACutAlone() {
        AgedMarks x = new AgedMarks(1, 2);
        x.run(7);
        x.go(2);
        x.cut();
        check.dueMarks("cut at 2", x, 0, 2);
    }

    /** "does not come back but by a cut and growing anew": it does by both. */
    private static void markThatWentComesBackByACutAndGrowing() {
        AgedMarks x = new AgedMarks(1, 2);
        x.run(7);
        x.go(2);
        x.cut();
        check.due("run(1)", x.run(1), 1);
        check.dueMarks("at 3 anew", x, 0, 2, 3);
    }

    /** "that it had not reached": the cut leaves the end on the count of a mark that went. */
    private static void markThatWentDoesNotComeBackIfTheCutEndStandsOnIt() {
        AgedMarks x = new AgedMarks(1, 2);
        x.run(7);
        x.go(3);
        check.due("cut()", x.cut(), 4);
        check.due("run(0)", x.run(0), 0);
        check.dueMarks("at 3", x, 0, 2);
        check.due("run(1)", x.run(1), 1);
        check.dueMarks("at 4", x, 0, 2, 4);
    }

    /** "m being the greatest count of a mark that is at most c": on a mark, so nothing. */
    private static void goingToAMarkCostsNothing() {
        AgedMarks x = new AgedMarks(10, 2);
        x.run(84);
        check.due("go(20)", x.go(20), 0);
        check.due("go(80)", x.go(80), 0);
    }

    /** "m being the greatest count of a mark that is at most c": one before a mark, so from the one before. */
    private static void goingToOneBeforeAMarkCostsFromTheMarkBefore() {
        AgedMarks x = new AgedMarks(10, 2);
        x.run(84);
        check.due("go(19)", x.go(19), 19);
        check.due("go(79)", x.go(79), 9);
    }

    /** "m being the greatest count of a mark that is at most c": 0 has mark 0 itself. */
    private static void goingToZeroCostsNothing() {
        AgedMarks x = new AgedMarks(10, 2);
        check.due("new: go(0)", x.go(0), 0);
        x.run(84);
        check.due("go(0)", x.go(0), 0);
    }

    /** "m being the greatest count of a mark that is at most c": behind the newest mark. */
    private static void goingBehindTheNewestMarkCostsFromIt() {
        AgedMarks x = new AgedMarks(10, 2);
        x.run(84);
        check.due("go(84)", x.go(84), 4);
    }
}
