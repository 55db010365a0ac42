/** Promises 7 (window), 8 (over) and 4 (query): the functions, and how rows are parted and ordered. */
public final class WindowTest {
    private static final int NONE = FrameQueries.NONE;
    private static final int MIN = Integer.MIN_VALUE;
    private static final int MAX = Integer.MAX_VALUE;

    public static void main(String[] args) {
        rankings();
        neighbours();
        aggregates();
        tiles();
        withoutOrder();
        withoutPartition();
        nullIsAPartition();
        columnsOfTable1();
        windowAnswersNumbers();
        windowRefuses();
        overRefuses();
        overReplaces();
        queryTakesWindowsAway();
        Check.end();
    }

    /** By columns 0 and 1 the rows come as column 2 says: NULL, 2, 4, 4, 7, 9 and then 1. */
    static FrameQueries sample() {
        return Use.withTable0(8, new Integer[][] {
            {1, 2, 10}, {1, 4, 20}, {1, 4, 30}, {1, 7, 40}, {1, null, 50}, {1, 9, null}, {2, 1, 5},
        });
    }

    private static void works(int f, int arg, int n, Integer... want) {
        FrameQueries q = sample();
        String what = "window(" + f + ", " + arg + ", " + n + ")";
        Check.due(what, q.window(f, arg, n), 0);
        Check.yes(what + " over", q.over(0, 0, 1, false));
        Use.runs(what, q, 7);
        Use.column(what, q, 2, 50, 10, 20, 30, 40, null, 5);
        Use.column(what, q, 6, want);
        Use.column(what, q, 7, null, null, null, null, null, null, null);
    }

    private static void rankings() {
        works(0, 2, 1, 1, 2, 3, 4, 5, 6, 1);
        works(1, 2, 1, 1, 2, 3, 3, 5, 6, 1);
        works(2, 2, 1, 1, 2, 3, 3, 4, 5, 1);
    }

    private static void neighbours() {
        works(4, 2, 1, null, 50, 10, 20, 30, 40, null);
        works(4, 2, 2, null, null, 50, 10, 20, 30, null);
        works(4, 1, 5, null, null, null, null, null, null, null);
        works(4, 2, 6, null, null, null, null, null, null, null);
        works(5, 2, 1, 10, 20, 30, 40, null, null, null);
        works(5, 2, 3, 30, 40, null, null, null, null, null);
        works(5, 0, 5, 1, null, null, null, null, null, null);
        works(5, 2, 9, null, null, null, null, null, null, null);
    }

    private static void aggregates() {
        works(6, 2, 1, 50, 50, 50, 50, 50, 50, 5);
        works(7, 2, 1, null, null, null, null, null, null, 5);
        works(7, 1, 1, 9, 9, 9, 9, 9, 9, 1);
        works(8, 2, 1, 150, 150, 150, 150, 150, 150, 5);
        works(9, 2, 1, 5, 5, 5, 5, 5, 5, 1);
        works(9, 0, 1, 6, 6, 6, 6, 6, 6, 1);
        works(10, 2, 1, 10, 10, 10, 10, 10, 10, 5);
        works(11, 2, 1, 50, 50, 50, 50, 50, 50, 5);
        works(8, 3, 1, null, null, null, null, null, null, null);
        works(9, 3, 1, 0, 0, 0, 0, 0, 0, 0);
        works(10, 4, 1, null, null, null, null, null, null, null);
        works(11, 5, 1, null, null, null, null, null, null, null);
        FrameQueries q = Use.withTable0(4, new Integer[][] {{MIN, MAX, -3}, {MAX, MIN, -2}, {null, null, -4}});
        q.window(10, 0, 1);
        q.window(11, 1, 1);
        q.window(11, 2, 1);
        Use.runs("extremes", q, 3);
        Use.column("least", q, 6, MIN, MIN, MIN);
        Use.column("greatest", q, 7, MAX, MAX, MAX);
        Use.column("greatest below 0", q, 8, -2, -2, -2);
    }

    private static void tiles() {
        works(3, 0, 1, 1, 1, 1, 1, 1, 1, 1);
        works(3, 0, 2, 1, 1, 1, 2, 2, 2, 1);
        works(3, 0, 4, 1, 1, 2, 2, 3, 4, 1);
        works(3, 0, 5, 1, 1, 2, 3, 4, 5, 1);
        works(3, 0, 6, 1, 2, 3, 4, 5, 6, 1);
        works(3, 0, 9, 1, 2, 3, 4, 5, 6, 1);
        FrameQueries q = new FrameQueries(8);
        Use.fillCounting(q, 0, 11);
        q.window(3, 0, 3);
        Use.runs("tiles of 4, 4 and 3", q, 11);
        Use.column("tiles of 4, 4 and 3", q, 6, 1, 1, 1, 1, 2, 2, 2, 2, 3, 3, 3);
        q = new FrameQueries(4);
        Use.fillSame(q, 0, 3, 1);
        Use.fillSame(q, 0, 5, 2);
        q.window(3, 0, 2);
        q.over(0, 0, NONE, false);
        q.window(1, 0, 1);
        q.over(1, 0, 1, false);
        q.window(0, 0, 1);
        q.over(2, 0, 1, false);
        Use.runs("two partitions", q, 8);
        Use.column("TILE in each", q, 6, 1, 1, 2, 1, 1, 1, 2, 2);
        Use.column("RANK in each", q, 7, 1, 1, 1, 1, 1, 1, 1, 1);
        Use.column("ROW NUMBER in each", q, 8, 1, 2, 3, 1, 2, 3, 4, 5);
    }

    private static void withoutOrder() {
        FrameQueries q = sample();
        q.window(1, 2, 1);
        q.over(0, 0, NONE, false);
        q.window(2, 2, 1);
        q.over(1, 0, NONE, true);
        q.window(0, 2, 1);
        q.over(2, 0, NONE, false);
        Use.runs("all are peers", q, 7);
        Use.column("by origin in a partition", q, 2, 10, 20, 30, 40, 50, null, 5);
        Use.column("RANK", q, 6, 1, 1, 1, 1, 1, 1, 1);
        Use.column("DENSE RANK", q, 7, 1, 1, 1, 1, 1, 1, 1);
        Use.column("ROW NUMBER", q, 8, 1, 2, 3, 4, 5, 6, 1);
    }

    private static void withoutPartition() {
        FrameQueries q = sample();
        q.window(0, 2, 1);
        q.over(0, NONE, 1, true);
        q.window(8, 2, 1);
        Use.runs("one partition", q, 7);
        Use.column("down, NULL last", q, 1, 9, 7, 4, 4, 2, 1, null);
        Use.column("peers by origin", q, 2, null, 40, 20, 30, 10, 5, 50);
        Use.column("ROW NUMBER", q, 6, 1, 2, 3, 4, 5, 6, 7);
        Use.column("SUM", q, 7, 155, 155, 155, 155, 155, 155, 155);
    }

    private static void nullIsAPartition() {
        FrameQueries q = Use.withTable0(3, new Integer[][] {
            {0, 1, 1}, {null, 2, 2}, {MIN, 3, 3}, {null, 4, 4}, {0, 5, 5}, {MIN, 6, 6},
        });
        q.window(9, 0, 1);
        q.over(0, 0, NONE, false);
        q.window(2, 0, 1);
        q.over(1, 1, 0, false);
        q.window(8, 1, 1);
        q.over(2, 0, NONE, true);
        q.order(0, false);
        Use.runs("NULL parts", q, 6);
        Use.column("NULL first", q, 1, 2, 4, 3, 6, 1, 5);
        Use.column("COUNT", q, 6, 0, 0, 2, 2, 2, 2);
        Use.column("SUM", q, 8, 6, 6, 9, 9, 6, 6);
    }

    private static void columnsOfTable1() {
        FrameQueries q = Use.withTable0(4, new Integer[][] {{1, 1, 1}, {2, 2, 2}});
        Use.fill(q, 1, new Integer[][] {{1, 9, 30}, {2, 9, 20}, {1, 8, 10}, {2, 8, null}});
        q.join(0, 0);
        q.window(8, 5, 1);
        q.over(0, 4, 3, true);
        q.frame(0, false, NONE, 0);
        q.window(5, 5, 1);
        q.over(1, NONE, 5, false);
        Use.runs("columns of table 1", q, 4);
        Use.column("columns of table 1", q, 5, null, 10, 20, 30);
        Use.column("columns of table 1", q, 6, null, 10, 20, 50);
        Use.column("columns of table 1", q, 7, 10, 20, 30, null);
    }

    private static void windowAnswersNumbers() {
        FrameQueries q = sample();
        Check.due("the first window", q.window(11, 5, 9), 0);
        Check.due("a wrong one", q.window(12, 0, 1), NONE);
        Check.due("the second window", q.window(0, 0, 1), 1);
        Check.due("the third window", q.window(4, 2, 2), 2);
        Check.due("a fourth window", q.window(1, 0, 1), NONE);
        Use.runs("three windows", q, 7);
        Use.column("window 0", q, 6, null, null, null, null, null, null, null);
        Use.column("window 1", q, 7, 1, 2, 3, 4, 5, 6, 7);
        Use.column("window 2", q, 8, null, null, 10, 20, 30, 40, 50);
    }

    private static void windowRefuses() {
        FrameQueries q = sample();
        int[][] wrong = {
            {-1, 0, 1}, {12, 0, 1}, {MIN, 0, 1}, {MAX, 0, 1}, {0, -1, 1}, {0, 6, 1}, {0, 8, 1}, {0, MIN, 1}, {0, MAX, 1},
            {0, 0, 0}, {0, 0, 10}, {3, 0, 0}, {3, 0, -1}, {0, 0, MIN}, {0, 0, MAX},
        };
        for (int[] w : wrong) {
            Check.due("window(" + w[0] + ", " + w[1] + ", " + w[2] + ")", q.window(w[0], w[1], w[2]), NONE);
        }
        Check.no("there is no window 0", q.over(0, 0, 0, false));
        Check.due("the first window", q.window(0, 0, 1), 0);
    }

    private static void overRefuses() {
        FrameQueries q = sample();
        q.window(0, 0, 1);
        q.over(0, 0, 1, false);
        int[][] wrong = {
            {-1, 0, 0}, {1, 0, 0}, {2, 0, 0}, {3, 0, 0}, {MIN, 0, 0}, {MAX, 0, 0},
            {0, -2, 0}, {0, 6, 0}, {0, MIN, 0}, {0, MAX, 0}, {0, 0, -2}, {0, 0, 6}, {0, 0, MIN}, {0, 0, MAX},
        };
        for (int[] w : wrong) {
            Check.no("over(" + w[0] + ", " + w[1] + ", " + w[2] + ", true)", q.over(w[0], w[1], w[2], true));
        }
        Use.runs("as before", q, 7);
        Use.column("as before", q, 6, 1, 2, 3, 4, 5, 6, 1);
        Use.column("as before", q, 1, null, 2, 4, 4, 7, 9, 1);
        q.frame(0, true, 0, 0);
        Check.no("RANGE needs an order column", q.over(0, 1, NONE, true));
        Check.no("RANGE needs an order column", q.over(0, NONE, NONE, false));
        Use.runs("as before", q, 7);
        Use.column("as before", q, 6, 1, 2, 3, 4, 5, 6, 1);
        Check.yes("another order column", q.over(0, NONE, 2, true));
        q.frame(0, false, 0, 0);
        Check.yes("ROWS needs none", q.over(0, 1, NONE, true));
    }

    private static void overReplaces() {
        FrameQueries q = sample();
        q.window(0, 0, 1);
        q.over(0, 0, 1, true);
        Check.yes("over again", q.over(0, NONE, 2, false));
        Use.runs("over again", q, 7);
        Use.column("over again", q, 2, null, 5, 10, 20, 30, 40, 50);
        Use.column("over again", q, 6, 1, 2, 3, 4, 5, 6, 7);
        Check.yes("over nothing", q.over(0, NONE, NONE, true));
        Use.runs("over nothing", q, 7);
        Use.column("over nothing", q, 2, 10, 20, 30, 40, 50, null, 5);
        Check.yes("one column as both", q.over(0, 1, 1, true));
        Use.runs("one column as both", q, 7);
        Use.column("one column as both", q, 1, null, 1, 2, 4, 4, 7, 9);
        Use.column("one column as both", q, 6, 1, 1, 1, 1, 2, 1, 1);
    }

    private static void queryTakesWindowsAway() {
        FrameQueries q = sample();
        for (int w = 0; w < 3; w++) {
            q.window(8, 2, 1);
            q.over(w, 0, 1, true);
            q.frame(w, true, 1, 1);
        }
        q.query();
        Check.no("no window 0", q.over(0, 0, 0, false));
        Check.no("no window 0", q.frame(0, false, 0, 0));
        Use.runs("no windows", q, 7);
        Use.column("no windows", q, 6, null, null, null, null, null, null, null);
        Check.due("a new window 0", q.window(8, 2, 1), 0);
        Check.no("it has no order column", q.frame(0, true, 0, 0));
        Use.runs("a new window 0", q, 7);
        Use.column("by ROWS without bounds", q, 6, 155, 155, 155, 155, 155, 155, 155);
        Use.column("without columns", q, 2, 10, 20, 30, 40, 50, null, 5);
        Check.yes("by ROWS it needs no order column", q.over(0, 0, NONE, false));
        Check.yes("by ROWS it may have one", q.over(0, 0, 1, false));
        Use.runs("by ROWS with an order column", q, 7);
        Use.column("by ROWS with an order column", q, 6, 150, 150, 150, 150, 150, 150, 5);
    }
}
