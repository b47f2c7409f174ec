/**
 * Grown to the limit of 1000000 GAPs for every RICH: the most marks and slots there can be, each held against
 * the rule itself. No object gets over 512 calls, so the marks are asked of two objects of the same growth.
 */
public final class FullGrowthTest {
    private static final int LIMIT = 1000000;
    private static final Check check = new Check();

    public static void main(String[] args) {
        for (int rich = 2; rich <= 16; rich++) {
            long[] due = kept(rich, LIMIT);
            askMarks(rich, due, 0, 140);
            askMarks(rich, due, 140, due.length);
        }
        againstPlainMarks(16);
        againstPlainMarks(2);
        check.finish();
    }

    private static AgedMarks grown(int rich) {
        AgedMarks x = new AgedMarks(1, rich);
        for (int r = 0; r < LIMIT / 4000; r++) {
            check.due("rich " + rich + ": run(4000)", x.run(4000), 4000);
        }
        return x;
    }

    private static void askMarks(int rich, long[] due, int from, int to) {
        AgedMarks x = grown(rich);
        check.due("rich " + rich + ": count(2)", x.count(2), due.length);
        check.due("rich " + rich + ": count(5)", x.count(5), LIMIT + 1 - due.length);
        for (int k = from; k < to && k < due.length; k++) {
            check.due("rich " + rich + ": mark(" + k + ", 0)", x.mark(k, 0), due[k]);
        }
    }

    private static void againstPlainMarks(int rich) {
        PlainMarks p = new PlainMarks(1, rich);
        for (int r = 0; r < LIMIT / 4000; r++) {
            p.run(4000);
        }
        int held = (int) p.count(2);
        AgedMarks x = null;
        for (int k = 0; k < held; k++) {
            if (k % 100 == 0) {
                x = grown(rich);
                check.due("rich " + rich + ": count(3)", x.count(3), p.count(3));
                check.due("rich " + rich + ": worst()", x.worst(), p.worst());
            }
            check.due("rich " + rich + ": slot of " + k, x.mark(k, 1), p.mark(k, 1));
            check.due("rich " + rich + ": holder(" + k + ")", x.holder(k), p.holder(k));
        }
    }

    /** Without a cut those are kept that the rule keeps at the last mark laid, as it only grows stricter. */
    private static long[] kept(int rich, int n) {
        return java.util.stream.LongStream.rangeClosed(0, n).filter(i -> {
            long power = 1;
            while (rich * power * 2 <= n - i) {
                power *= 2;
            }
            return i % power == 0;
        }).toArray();
    }
}
