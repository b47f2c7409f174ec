import java.util.ArrayList;
import java.util.BitSet;
import java.util.List;
import java.util.NoSuchElementException;

/** The document's words done one by one, without any thought of speed: what AgedMarks is held against. */
final class PlainMarks {
    private static final class Mark {
        final long number;
        final int slot;

        Mark(long number, int slot) {
            this.number = number;
            this.slot = slot;
        }
    }

    private final long gap;
    private final long rich;
    private final List<Mark> marks = new ArrayList<>();
    private long now = 0;
    private long end = 0;
    private long most = 1;
    private long laid = 0;
    private long gone = 0;
    private long spent = 0;

    PlainMarks(int gap, int rich) {
        this.gap = gap < 1 ? 1 : gap > 1000 ? 1000 : gap;
        this.rich = rich < 2 ? 2 : rich > 16 ? 16 : rich;
        marks.add(new Mark(0, 0));
    }

    long run(int n) {
        if (n < 0 || n > 4000) {
            throw new IllegalArgumentException();
        }
        if (now + n > 1000000 * gap) {
            throw new IllegalStateException();
        }
        now += n;
        long before = laid;
        while (end < now) {
            end++;
            if (end % gap == 0) {
                lay(end / gap);
            }
        }
        return laid - before;
    }

    long go(long c) {
        if (c < 0 || c > end) {
            throw new IllegalArgumentException();
        }
        now = c;
        spent += cost(c);
        return cost(c);
    }

    long back(long n) {
        if (n < 0) {
            throw new IllegalArgumentException();
        }
        return go(now < n ? 0 : now - n);
    }

    long cut() {
        end = now;
        int before = marks.size();
        marks.removeIf(m -> m.number * gap > end);
        gone += before - marks.size();
        return before - marks.size();
    }

    long mark(int k, int what) {
        if (k < 0 || k >= marks.size()) {
            throw new NoSuchElementException();
        }
        if (what < 0 || what > 2) {
            throw new IllegalArgumentException();
        }
        Mark m = marks.get(k);
        long newest = marks.get(marks.size() - 1).number;
        return what == 0 ? m.number * gap : what == 1 ? m.slot : newest - m.number;
    }

    long holder(int slot) {
        for (int k = 0; k < marks.size(); k++) {
            if (marks.get(k).slot == slot) {
                return k;
            }
        }
        return -1;
    }

    /** Every count is gone to; the nearest mark before it is carried along so that it is no search each. */
    long worst() {
        long worst = 0;
        int k = 0;
        for (long c = 0; c <= end; c++) {
            while (k + 1 < marks.size() && marks.get(k + 1).number * gap <= c) {
                k++;
            }
            worst = Math.max(worst, c - marks.get(k).number * gap);
        }
        return worst;
    }

    long count(int what) {
        long[] counts = {now, end, marks.size(), most, laid, gone, spent};
        return what < 0 || what >= counts.length ? -1 : counts[what];
    }

    private void lay(long n) {
        marks.add(new Mark(n, leastFreeSlot()));
        laid++;
        int before = marks.size();
        marks.removeIf(m -> goes(m.number, n));
        gone += before - marks.size();
        most = Math.max(most, marks.size());
    }

    private int leastFreeSlot() {
        BitSet taken = new BitSet();
        for (Mark m : marks) {
            taken.set(m.slot);
        }
        return taken.nextClearBit(0);
    }

    private boolean goes(long i, long n) {
        long power = 1;
        while (rich * power * 2 <= n - i) {
            power *= 2;
        }
        return i % power != 0;
    }

    private long cost(long c) {
        long before = 0;
        for (Mark m : marks) {
            if (m.number * gap <= c) {
                before = m.number * gap;
            }
        }
        return c - before;
    }
}
