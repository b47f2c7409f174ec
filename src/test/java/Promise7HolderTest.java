/** Promise 7: holder. */
public final class Promise7HolderTest {
    private static final Check check = new Check();

    public static void main(String[] args) {
        AgedMarks x = new AgedMarks(10, 2);
        x.run(74);
        // The marks lie at 0, 20, 40, 50, 60, 70, with the slots 0, 2, 4, 5, 1, 6; mark 30's slot 3 is free.
        holders("at 74", x, 0, 4, 1, -1, 2, 3, 5, -1);
        x.run(10);
        holders("at 84", x, 0, 4, 1, 6, 2, 3, 5, -1);
        x.go(45);
        x.cut();
        holders("cut at 45", x, 0, -1, 1, -1, 2, -1, -1, -1);
        int[] none = {-1, -2, 319, 320, 321, Integer.MIN_VALUE, Integer.MAX_VALUE};
        for (int slot : none) {
            check.due("holder(" + slot + ")", x.holder(slot), AgedMarks.NONE);
        }
        check.finish();
    }

    private static void holders(String when, AgedMarks x, int... due) {
        for (int slot = 0; slot < due.length; slot++) {
            check.due(when + ": holder(" + slot + ")", x.holder(slot), due[slot]);
        }
    }
}
