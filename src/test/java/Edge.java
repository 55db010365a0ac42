import java.util.function.Predicate;
import java.util.function.Supplier;

/** What the tests of the document's edges share. */
final class Edge {
    static final int NONE = FrameQueries.NONE;
    static final int ROOM = FrameQueries.ROOM;
    static final int OVERFLOW = FrameQueries.OVERFLOW;
    static final int MIN = Integer.MIN_VALUE;
    static final int MAX = Integer.MAX_VALUE;

    private Edge() {
    }

    /** What is refused where low .. high are taken: next to them, far away, and with the same last bits. */
    static int[] outside(int low, int high) {
        return new int[] {low - 1, high + 1, low - 2, high + 2, MIN, MAX, low + 256, high - 256, low + 65536, high - 65536};
    }

    /**
     * An object with rows, a query of all kinds (two windows, the first by RANGE) and a result; the
     * tables have changed since, so that the next run brings another result than this one.
     */
    static FrameQueries busy() {
        FrameQueries q = new FrameQueries(5);
        Use.fill(q, 0, new Integer[][] {{1, 3, 10}, {1, null, 20}, {2, 5, 30}, {1, 4, null}, {2, 5, 50}});
        Use.fill(q, 1, new Integer[][] {{1, 7, 100}, {2, 8, null}, {2, 9, 300}, {null, 1, 1}});
        q.filter(2, 4, 0);
        q.join(0, 0);
        q.window(8, 2, 1);
        q.over(0, 0, 1, true);
        q.frame(0, true, -1, 0);
        q.window(6, 5, 3);
        q.over(1, NONE, 4, false);
        q.frame(1, false, -1, 1);
        q.order(6, true);
        Use.runs("a busy object", q, 6);
        Use.fill(q, 0, new Integer[][] {{2, 1, 60}});
        Use.fill(q, 1, new Integer[][] {{1, 6, 200}});
        return q;
    }

    static FrameQueries busyWithThreeWindows() {
        FrameQueries q = busy();
        Check.due("a third window", q.window(9, 3, 1), 2);
        return q;
    }

    /** All that can be seen of the latest run and of the tables, the cells of so many rows too. */
    static String seen(FrameQueries q, int rows) {
        StringBuilder text = new StringBuilder();
        text.append("rows ").append(q.rows(0)).append(' ').append(q.rows(1));
        text.append(", counts ").append(q.transfers()).append(' ').append(q.held()).append(' ').append(q.sorts());
        for (int r = 0; r < rows; r++) {
            text.append("\n ");
            for (int c = 0; c < 9; c++) {
                text.append(' ').append(q.isNull(r, c) ? "NULL" : String.valueOf(q.cell(r, c)));
            }
        }
        return text.toString();
    }

    /** A call is refused, and what can be seen, now and after a run, is as if it had not been made. */
    static void changesNothing(String what, Supplier<FrameQueries> maker, Predicate<FrameQueries> refused) {
        FrameQueries without = maker.get();
        FrameQueries with = maker.get();
        Check.yes(what + " is refused", refused.test(with));
        Check.same(what + " and then what is seen", seen(with, 7), seen(without, 7));
        Check.due(what + " and then run()", with.run(), without.run());
        Check.same(what + ", run() and then what is seen", seen(with, 11), seen(without, 11));
        Check.due(what + " and then the next window", with.window(0, 0, 1), without.window(0, 0, 1));
    }

    /** A call is taken, and the tables and the result of the run before stay as they are. */
    static void leavesTheResult(String what, Predicate<FrameQueries> taken) {
        FrameQueries q = busy();
        String before = seen(q, 7);
        Check.yes(what + " is taken", taken.test(q));
        Check.same(what + " and then what is seen", seen(q, 7), before);
    }

    /** An object with as many rows in table 0: 0, 1, 2 .. in column 0, 0, -1, -2 .. in column 1. */
    static FrameQueries counting(int frames, int rows) {
        FrameQueries q = new FrameQueries(frames);
        Use.fillCounting(q, 0, rows);
        return q;
    }

    /** An object whose join of columns 0 has as many rows (up to 60), with four rows in table 1. */
    static FrameQueries joining(int frames, int rows) {
        FrameQueries q = new FrameQueries(frames);
        Use.fillSame(q, 0, rows / 3, 1);
        Use.fillSame(q, 0, rows % 3, 2);
        Use.fillSame(q, 1, 3, 1);
        Use.fillSame(q, 1, 1, 2);
        q.join(0, 0);
        return q;
    }

    /** One function over one column of table 0 with these values, in their order; the column of its results. */
    static FrameQueries over(int f, int n, Integer... values) {
        FrameQueries q = new FrameQueries(8);
        for (Integer value : values) {
            Use.fill(q, 0, new Integer[][] {{value, 0, 0}});
        }
        Check.due("window(" + f + ", 0, " + n + ")", q.window(f, 0, n), 0);
        return q;
    }
}
