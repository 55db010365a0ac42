/** Promise 9 (frame): frames by ROWS and by RANGE. */
public final class FrameTest {
    private static final int NONE = FrameQueries.NONE;
    private static final int MIN = Integer.MIN_VALUE;
    private static final int MAX = Integer.MAX_VALUE;

    public static void main(String[] args) {
        byRows();
        byRowsFarAway();
        byRange();
        byRangeDown();
        byRangeInAFullList();
        neverWrapping();
        lowAboveHigh();
        onlyFrameFunctions();
        refuses();
        Check.end();
    }

    private static void frames(int f, boolean down, boolean range, int low, int high, Integer... want) {
        FrameQueries q = WindowTest.sample();
        String what = "function " + f + ", frame(0, " + range + ", " + low + ", " + high + ")" + (down ? " down" : "");
        q.window(f, 2, 1);
        q.over(0, 0, 1, down);
        Check.yes(what, q.frame(0, range, low, high));
        Use.runs(what, q, 7);
        Use.column(what, q, 6, want);
    }

    /** Column 2 is 50, 10, 20, 30, 40, NULL and 5. */
    private static void byRows() {
        frames(8, false, false, -1, 1, 60, 80, 60, 90, 70, 40, 5);
        frames(8, false, false, 1, 2, 30, 50, 70, 40, null, null, null);
        frames(9, false, false, 1, 2, 2, 2, 2, 1, 0, 0, 0);
        frames(6, false, false, 1, 2, 10, 20, 30, 40, null, null, null);
        frames(7, false, false, 1, 2, 20, 30, 40, null, null, null, null);
        frames(10, false, false, -2, -1, null, 50, 10, 10, 20, 30, null);
        frames(11, false, false, -2, -1, null, 50, 50, 20, 30, 40, null);
        frames(8, false, false, 0, 0, 50, 10, 20, 30, 40, null, 5);
        frames(8, false, false, -10, 0, 50, 60, 80, 110, 150, 150, 5);
        frames(8, false, false, 0, 10, 150, 100, 90, 70, 40, null, 5);
        frames(8, false, false, -10, 10, 150, 150, 150, 150, 150, 150, 5);
        frames(7, false, false, -10, -9, null, null, null, null, null, null, null);
        frames(9, false, false, 9, 10, 0, 0, 0, 0, 0, 0, 0);
    }

    /** -9 and 9 are bounds, -10 and 10 are none. */
    private static void byRowsFarAway() {
        FrameQueries q = new FrameQueries(8);
        Use.fillCounting(q, 0, 24);
        q.window(9, 0, 1);
        q.over(0, NONE, 0, false);
        q.frame(0, false, -9, 0);
        q.window(9, 0, 1);
        q.over(1, NONE, 0, false);
        q.frame(1, false, -10, 9);
        q.window(9, 0, 1);
        q.over(2, NONE, 0, false);
        q.frame(2, true, -9, 10);
        Use.runs("24 rows", q, 24);
        for (int i = 0; i < 24; i++) {
            Check.due("from -9, row " + i, q.cell(i, 6), Math.min(i + 1, 10));
            Check.due("to 9, row " + i, q.cell(i, 7), Math.min(i + 10, 24));
            Check.due("RANGE from -9, row " + i, q.cell(i, 8), 24 - Math.max(i - 9, 0));
        }
        q.frame(2, true, -10, 9);
        Use.runs("24 rows", q, 24);
        for (int i = 0; i < 24; i++) {
            Check.due("RANGE to 9, row " + i, q.cell(i, 8), Math.min(i + 10, 24));
        }
    }

    /** The order column is NULL, 2, 4, 4, 7, 9 and 1. */
    private static void byRange() {
        frames(8, false, true, -2, 0, 50, 10, 60, 60, 40, 40, 5);
        frames(8, false, true, 0, 0, 50, 10, 50, 50, 40, null, 5);
        frames(9, false, true, 1, 5, 1, 3, 1, 1, 0, 0, 0);
        frames(9, false, true, 0, 5, 1, 4, 3, 3, 1, 0, 1);
        frames(6, false, true, -3, -2, 50, null, 10, 10, 20, 40, null);
        frames(7, false, true, -3, -2, 50, null, 10, 10, 30, 40, null);
        frames(7, false, true, 1, 9, 50, null, null, null, null, null, null);
        frames(6, false, true, 1, 9, 50, 20, 40, 40, null, null, null);
        frames(8, false, true, -10, 10, 50, 100, 100, 100, 100, 100, 5);
        frames(8, false, true, -10, 0, 50, 10, 60, 60, 100, 100, 5);
        frames(8, false, true, 0, 10, 50, 100, 90, 90, 40, null, 5);
        frames(10, false, true, -10, -1, 50, null, 10, 10, 10, 10, null);
        frames(11, false, true, -10, -1, 50, null, 10, 10, 30, 40, null);
    }

    /** Down the rows are 9, 7, 4, 4, 2, NULL and 1. */
    private static void byRangeDown() {
        frames(8, true, true, -2, 0, null, 40, 50, 50, 60, 50, 5);
        frames(9, true, true, 1, 3, 1, 2, 1, 1, 0, 1, 0);
        frames(6, true, true, -10, -1, null, null, null, null, null, 50, null);
        frames(7, true, true, -10, -1, null, null, 40, 40, 30, 50, null);
        frames(8, true, true, 0, 10, 100, 100, 60, 60, 10, 50, 5);
    }

    /** Sixty rows fill the list: a frame that is sought behind its last row is not there. */
    private static void byRangeInAFullList() {
        FrameQueries q = new FrameQueries(8);
        Use.fillSame(q, 0, 6, 1);
        for (int i = 0; i < 10; i++) {
            q.insert(1, 1, i, 10 * i, 0);
        }
        q.join(0, 0);
        q.window(7, 5, 1);
        q.over(0, 4, 4, false);
        q.frame(0, true, 1, 9);
        q.window(8, 5, 1);
        q.over(1, 4, 4, false);
        q.frame(1, true, 0, 0);
        q.window(5, 5, 1);
        q.over(2, 4, 4, false);
        Use.runs("a full list", q, 60);
        for (int r = 0; r < 60; r++) {
            Check.yes("LAST of an empty frame, row " + r, q.isNull(r, 6));
            Check.due("SUM of the peers, row " + r, q.cell(r, 7), 6 * 10 * (r / 6));
            Check.due("LEAD at the partition's end, row " + r, q.isNull(r, 8) ? 1 : 0, r % 6 == 5 ? 1 : 0);
        }
    }

    private static void neverWrapping() {
        for (int turn = 0; turn < 2; turn++) {
            boolean down = turn == 1;
            FrameQueries q = Use.withTable0(4, new Integer[][] {{MIN, 0, 0}, {MAX, 0, 0}, {MAX - 3, 0, 0}, {MIN + 2, 0, 0}});
            q.window(9, 0, 1);
            q.over(0, NONE, 0, down);
            q.frame(0, true, -9, 9);
            q.window(9, 0, 1);
            q.over(1, NONE, 0, down);
            q.frame(1, true, 0, 10);
            q.window(9, 0, 1);
            q.over(2, NONE, 0, down);
            q.frame(2, true, -10, 0);
            Use.runs("extremes", q, 4);
            Use.column("extremes, near", q, 6, 2, 2, 2, 2);
            Use.column("extremes, from there on", q, 7, 4, 3, 2, 1);
            Use.column("extremes, up to there", q, 8, 1, 2, 3, 4);
        }
    }

    private static void lowAboveHigh() {
        frames(8, false, false, 1, 0, null, null, null, null, null, null, null);
        frames(9, false, false, 9, -9, 0, 0, 0, 0, 0, 0, 0);
        frames(6, false, false, 2, 1, null, null, null, null, null, null, null);
        frames(7, false, false, 2, 1, null, null, null, null, null, null, null);
        frames(10, false, false, 2, 1, null, null, null, null, null, null, null);
        frames(11, false, false, 2, 1, null, null, null, null, null, null, null);
        FrameQueries q = new FrameQueries(4);
        Use.fillCounting(q, 0, 5);
        q.window(9, 0, 1);
        q.over(0, NONE, 0, false);
        Check.yes("frame(0, true, 3, 2)", q.frame(0, true, 3, 2));
        Use.runs("RANGE, low above high", q, 5);
        Use.column("RANGE, low above high", q, 6, 0, 0, 0, 0, 0);
    }

    private static void onlyFrameFunctions() {
        frames(0, false, false, 1, 0, 1, 2, 3, 4, 5, 6, 1);
        frames(1, false, true, 9, 9, 1, 2, 3, 3, 5, 6, 1);
        frames(2, false, true, 9, 9, 1, 2, 3, 3, 4, 5, 1);
        frames(3, false, false, 1, 0, 1, 1, 1, 1, 1, 1, 1);
        frames(4, false, false, 1, 0, null, 50, 10, 20, 30, 40, null);
        frames(5, false, false, 1, 0, 10, 20, 30, 40, null, null, null);
    }

    private static void refuses() {
        FrameQueries q = WindowTest.sample();
        q.window(9, 2, 1);
        q.over(0, 0, 1, false);
        q.frame(0, true, -2, 0);
        int[][] wrong = {
            {-1, 0, 0}, {1, 0, 0}, {3, 0, 0}, {MIN, 0, 0}, {MAX, 0, 0},
            {0, -11, 0}, {0, 10, 10}, {0, MIN, 0}, {0, MAX, 0}, {0, 0, -10}, {0, 0, 11}, {0, 0, MIN}, {0, 0, MAX},
        };
        for (int[] w : wrong) {
            Check.no("frame(" + w[0] + ", false, " + w[1] + ", " + w[2] + ")", q.frame(w[0], false, w[1], w[2]));
            Check.no("frame(" + w[0] + ", true, " + w[1] + ", " + w[2] + ")", q.frame(w[0], true, w[1], w[2]));
        }
        Use.runs("as before", q, 7);
        Use.column("as before", q, 6, 1, 1, 3, 3, 1, 1, 1);
        q.window(9, 2, 1);
        Check.yes("ROWS without an order column", q.frame(1, false, 0, 0));
        Check.no("RANGE without an order column", q.frame(1, true, -10, 10));
        q.over(1, 0, NONE, false);
        Check.no("RANGE with a partition column alone", q.frame(1, true, -10, 10));
        Use.runs("as before", q, 7);
        Use.column("as before", q, 7, 1, 1, 1, 1, 1, 0, 1);
        q.over(1, NONE, 1, false);
        Check.yes("RANGE with an order column alone", q.frame(1, true, -10, 10));
    }
}
