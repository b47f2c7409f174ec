/** Promise 9: count. */
public final class Promise9CountTest {
    private static final Check check = new Check();

    public static void main(String[] args) {
        AgedMarks x = new AgedMarks(10, 2);
        check.dueCounts("new", x, 0, 0, 1, 1, 0, 0, 0);
        x.run(44);
        check.dueCounts("at 44", x, 44, 44, 5, 5, 4, 0, 0);
        // Mark 5 is laid and mark 1 goes: five were there after that, though six in between.
        x.run(10);
        check.dueCounts("at 54", x, 54, 54, 5, 5, 5, 1, 0);
        x.run(30);
        check.dueCounts("at 84", x, 84, 84, 7, 7, 8, 2, 0);
        x.go(33);
        check.dueCounts("gone to 33", x, 33, 84, 7, 7, 8, 2, 13);
        x.back(1);
        check.dueCounts("one back", x, 32, 84, 7, 7, 8, 2, 25);
        x.cut();
        check.dueCounts("cut", x, 32, 32, 2, 7, 8, 7, 25);
        x.run(8);
        check.dueCounts("at 40 anew", x, 40, 40, 3, 7, 9, 7, 25);
        int[] others = {-1, 7, 8, Integer.MIN_VALUE, Integer.MAX_VALUE};
        for (int what : others) {
            check.due("count(" + what + ")", x.count(what), AgedMarks.NONE);
        }
        check.finish();
    }
}
