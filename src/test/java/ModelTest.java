/** Runs of calls drawn by a fixed rule, each answer held against PlainMarks; no object gets over 512 calls. */
public final class ModelTest {
    private static final int CALLS = 512;
    private static final int[] GAPS = {1, 1, 2, 3, 7, 10, 64, 333, 1000, 0, -9, 5000};
    private static final Check check = new Check();
    private static long seed = 20261115;

    public static void main(String[] args) {
        for (int r = 0; r < 1500 && !check.failed(); r++) {
            int gap = GAPS[below(GAPS.length)];
            int rich = below(19);
            int longest = new int[] {5, 40, 300, 4000}[r % 50 == 0 ? 3 : below(3)];
            play(r, gap, rich, longest);
        }
        check.finish();
    }

    private static void play(int r, int gap, int rich, int longest) {
        AgedMarks x = new AgedMarks(gap, rich);
        PlainMarks p = new PlainMarks(gap, rich);
        for (int call = 0; call < CALLS && !check.failed(); call++) {
            String at = "run " + r + " (" + gap + ", " + rich + "), call " + call + ": ";
            step(at, x, p, longest);
        }
    }

    private static void step(String at, AgedMarks x, PlainMarks p, int longest) {
        long end = p.count(1);
        int held = (int) p.count(2);
        switch (below(16)) {
            case 0, 1, 2, 3 -> {
                int n = below(50) == 0 ? 4001 - below(3) : below(longest + 2) - (below(20) == 0 ? 1 : 0);
                same(at + "run(" + n + ")", () -> x.run(n), () -> p.run(n));
            }
            case 4 -> {
                long c = below((int) end + 3) - 1L;
                same(at + "go(" + c + ")", () -> x.go(c), () -> p.go(c));
            }
            case 5 -> {
                long n = below(3 * longest) - 1L;
                same(at + "back(" + n + ")", () -> x.back(n), () -> p.back(n));
            }
            case 6 -> same(at + "cut()", () -> x.cut(), () -> p.cut());
            case 7, 8, 9, 10 -> {
                int k = below(held + 2) - (below(10) == 0 ? 1 : 0);
                int what = below(20) == 0 ? below(9) - 4 : below(3);
                same(at + "mark(" + k + ", " + what + ")", () -> x.mark(k, what), () -> p.mark(k, what));
            }
            case 11, 12 -> {
                int slot = below(held + 4) - 1;
                same(at + "holder(" + slot + ")", () -> x.holder(slot), () -> p.holder(slot));
            }
            case 13 -> same(at + "worst()", () -> x.worst(), () -> p.worst());
            default -> {
                int what = below(9) - 1;
                same(at + "count(" + what + ")", () -> x.count(what), () -> p.count(what));
            }
        }
    }

    private static void same(String call, Check.Call got, Check.Call want) {
        long due;
        try {
            due = want.answer();
        } catch (RuntimeException e) {
            check.dueThrow(call, e.getClass(), got);
            return;
        }
        try {
            check.due(call, got.answer(), due);
        } catch (RuntimeException e) {
            check.due(call + " threw " + e + ", due is " + due + ": not to throw", false);
        }
    }

    private static int below(int bound) {
        seed = seed * 6364136223846793005L + 1442695040888963407L;
        return (int) ((seed >>> 33) % bound);
    }
}
