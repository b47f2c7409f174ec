import java.util.NoSuchElementException;

/**
 * A keeper of marks along a count that can be gone back to: close together near the end, thinned far
 * behind it.
 */
public final class AgedMarks {
    public static final int NONE = -1;

    private static final int GREATEST_GAP = 1000;
    private static final int LEAST_RICH = 2;
    private static final int GREATEST_RICH = 16;
    private static final int LONGEST_RUN = 4000;
    private static final long MOST_GAPS = 1000000L;

    /*
     * Among the marks 2^j apart at most RICH are kept (2 * RICH for j = 0), and RICH * 2^j stays within
     * MOST_GAPS: at RICH 16 these are 32 + 15 * 16 = 272, at any other RICH fewer, and one more while a
     * mark is being laid. The room is the next whole number of words of 64 slots.
     */
    private static final int WORD = 64;
    private static final int WORDS = 5;
    private static final int ROOM = WORDS * WORD;

    private final int gap;
    private final int rich;

    /* The marks' numbers, oldest first, and at the same place each one's slot; "held" of them count. */
    private final int[] marks = new int[ROOM];
    private final int[] slots = new int[ROOM];
    private final Slots taken = new Slots();
    private int held;

    private long now;
    private long end;

    private int most;
    private long laid;
    private long gone;
    private long spent;

    public AgedMarks(int gap, int rich) {
        this.gap = Math.max(1, Math.min(GREATEST_GAP, gap));
        this.rich = Math.max(LEAST_RICH, Math.min(GREATEST_RICH, rich));
        // Mark 0 is there without having been laid, so it stays out of "laid".
        this.marks[0] = 0;
        this.slots[0] = this.taken.takeLeast();
        this.held = 1;
        this.most = 1;
    }

    public int run(int n) throws IllegalArgumentException, IllegalStateException {
        if (n < 0 || n > LONGEST_RUN) {
            throw new IllegalArgumentException("a run is 0 to 4000 long");
        }
        if (now + n > MOST_GAPS * gap) {
            throw new IllegalStateException("the count would be above 1000000 gaps");
        }
        now += n;
        return now > end ? growTo(now) : 0;
    }

    public long go(long c) throws IllegalArgumentException {
        if (c < 0 || c > end) {
            throw new IllegalArgumentException("the count is not 0 to the end");
        }
        return moveTo(c);
    }

    public long back(long n) throws IllegalArgumentException {
        if (n < 0) {
            throw new IllegalArgumentException("the way back is below 0");
        }
        return moveTo(n > now ? 0 : now - n);
    }

    public int cut() {
        int before = held;
        end = now;
        for (int k = held - 1; k > 0 && countAt(k) > end; k--) {
            drop(k);
        }
        return before - held;
    }

    public long mark(int k, int what) throws NoSuchElementException, IllegalArgumentException {
        if (k < 0 || k >= held) {
            throw new NoSuchElementException("there is no such mark");
        }
        switch (what) {
            case 0:
                return countAt(k);
            case 1:
                return slots[k];
            case 2:
                return marks[held - 1] - marks[k];
            default:
                throw new IllegalArgumentException("what is not 0 to 2");
        }
    }

    public int holder(int slot) {
        for (int k = 0; k < held; k++) {
            if (slots[k] == slot) {
                return k;
            }
        }
        return NONE;
    }

    public long worst() {
        // The dearest count behind a mark is the last one before the next mark, or the end itself.
        long worst = end - countAt(held - 1);
        for (int k = 1; k < held; k++) {
            worst = Math.max(worst, countAt(k) - 1 - countAt(k - 1));
        }
        return worst;
    }

    public long count(int what) {
        switch (what) {
            case 0:
                return now;
            case 1:
                return end;
            case 2:
                return held;
            case 3:
                return most;
            case 4:
                return laid;
            case 5:
                return gone;
            case 6:
                return spent;
            default:
                return NONE;
        }
    }

    private int growTo(long c) {
        int reached = gapsIn(end);
        int last = gapsIn(c);
        end = c;
        for (int n = reached + 1; n <= last; n++) {
            lay(n);
            thin(n);
            most = Math.max(most, held);
        }
        return last - reached;
    }

    private int gapsIn(long c) {
        return gap > 0 ? (int) (c / gap) : 0;
    }

    private void lay(int n) {
        if (held < 0 || held >= ROOM) {
            return;
        }
        marks[held] = n;
        slots[held] = taken.takeLeast();
        held++;
        laid++;
    }

    /*
     * Every mark kept the rule when the end stood at n - 1, and a cut only makes the rule milder. So at n
     * the rule is new to those i alone with n - i = RICH * 2^j, j >= 1, which are multiples of 2^(j-1)
     * already. Such an i goes if it is no multiple of 2^j, and as n - i is one, that is if 2^(j-1) is the
     * greatest power of 2 in n: which leaves one i to look for.
     */
    private void thin(int n) {
        int power = n & -n;
        int k = placeOf(n - rich * 2 * power);
        if (k != NONE) {
            drop(k);
        }
    }

    /* From the newest on, because half of the marks that are looked for lie near it. */
    private int placeOf(int i) {
        for (int k = held - 1; k >= 0; k--) {
            if (marks[k] <= i) {
                return marks[k] == i ? k : NONE;
            }
        }
        return NONE;
    }

    private void drop(int k) {
        if (k < 0 || k >= held) {
            return;
        }
        taken.release(slots[k]);
        int newer = held - 1 - k;
        System.arraycopy(marks, k + 1, marks, k, newer);
        System.arraycopy(slots, k + 1, slots, k, newer);
        held--;
        gone++;
    }

    private long moveTo(long c) {
        long cost = costOf(c);
        now = c;
        spent += cost;
        return cost;
    }

    private long costOf(long c) {
        for (int k = held - 1; k > 0; k--) {
            if (countAt(k) <= c) {
                return c - countAt(k);
            }
        }
        // Mark 0, at count 0, never goes: it is a multiple of every 2^j, and no end lies before it.
        return c;
    }

    private long countAt(int k) {
        return k >= 0 && k < ROOM ? (long) marks[k] * gap : 0;
    }

    /* Which slots are taken, a bit for each, so that the least free one is found without a long search. */
    private static final class Slots {
        private final long[] words = new long[WORDS];

        int takeLeast() {
            for (int w = 0; w < WORDS; w++) {
                long free = ~words[w];
                if (free != 0) {
                    long least = free & -free;
                    words[w] |= least;
                    return w * WORD + Long.bitCount(least - 1);
                }
            }
            return NONE;
        }

        void release(int slot) {
            if (slot >= 0 && slot < ROOM) {
                words[slot / WORD] &= ~(1L << (slot % WORD));
            }
        }
    }
}
