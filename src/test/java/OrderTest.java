/** Promises 10 (order) and 16 (sorts): the order of the result, and when the list is sorted. */
public final class OrderTest {
    private static final int NONE = FrameQueries.NONE;

    public static void main(String[] args) {
        upAndDown();
        byWindowResults();
        byMissingWindow();
        refusesAndTakesThePlace();
        orderNeedsNoSort();
        orderNeedsASort();
        windowsShareSorts();
        windowsDoNotShareSorts();
        windowsWithMoreKeysFirst();
        sortsOfEmptyLists();
        Check.end();
    }

    private static FrameQueries sample() {
        return Use.withTable0(5, new Integer[][] {
            {2, 1, 0}, {null, 1, 1}, {1, 2, 2}, {2, 2, 3}, {null, 1, 4}, {Integer.MIN_VALUE, 2, 5},
        });
    }

    private static void upAndDown() {
        FrameQueries q = sample();
        Check.yes("order(0, false)", q.order(0, false));
        Use.runs("up", q, 6);
        Use.column("up", q, 2, 1, 4, 5, 2, 0, 3);
        Check.yes("order(0, true)", q.order(0, true));
        Use.runs("down", q, 6);
        Use.column("down", q, 2, 0, 3, 2, 5, 1, 4);
        Check.due("down: sorts()", q.sorts(), 1);
        Use.fill(q, 1, new Integer[][] {{1, 3, 0}, {2, 4, 1}, {1, 4, 2}});
        q.join(0, 0);
        q.order(4, true);
        Use.runs("by a column of table 1", q, 4);
        Use.column("by a column of table 1", q, 2, 0, 2, 3, 2);
        Use.column("by a column of table 1", q, 5, 1, 2, 1, 0);
        q.order(1, false);
        Use.runs("pairs by origin", q, 4);
        Use.column("pairs by origin", q, 2, 0, 2, 2, 3);
        Use.column("pairs by origin", q, 5, 1, 0, 2, 1);
    }

    private static void byWindowResults() {
        for (int w = 0; w < 3; w++) {
            FrameQueries q = sample();
            for (int before = 0; before < w; before++) {
                q.window(0, 0, 1);
            }
            q.window(4, 0, 1);
            q.order(6 + w, false);
            Use.runs("by column " + (6 + w), q, 6);
            // the column before is NULL, 2, NULL, 1, 2, NULL
            Use.column("up", q, 2, 0, 2, 5, 3, 1, 4);
            Use.column("up", q, 6 + w, null, null, null, 1, 2, 2);
            Check.due("sorts()", q.sorts(), 2);
            q.order(6 + w, true);
            Use.runs("by column " + (6 + w), q, 6);
            Use.column("down", q, 2, 1, 4, 3, 0, 2, 5);
        }
    }

    private static void byMissingWindow() {
        for (int c = 6; c < 9; c++) {
            FrameQueries q = sample();
            Check.yes("order(" + c + ", true)", q.order(c, true));
            Use.runs("all NULL", q, 6);
            Use.column("all NULL", q, 2, 0, 1, 2, 3, 4, 5);
            Check.due("all NULL: sorts()", q.sorts(), 1);
        }
        FrameQueries q = sample();
        q.window(0, 0, 1);
        q.over(0, 1, NONE, false);
        q.order(7, false);
        Use.runs("a window, but not this one", q, 6);
        Use.column("a window, but not this one", q, 2, 0, 1, 2, 3, 4, 5);
        Check.due("a window, but not this one: sorts()", q.sorts(), 2);
    }

    private static void refusesAndTakesThePlace() {
        FrameQueries q = sample();
        q.order(0, true);
        int[] wrong = {-1, 9, 10, Integer.MIN_VALUE, Integer.MAX_VALUE};
        for (int c : wrong) {
            Check.no("order(" + c + ", false)", q.order(c, false));
        }
        Use.runs("the order before stays", q, 6);
        Use.column("the order before stays", q, 2, 0, 3, 2, 5, 1, 4);
        q.order(1, false);
        Use.runs("the second order alone", q, 6);
        Use.column("the second order alone", q, 2, 0, 1, 4, 2, 3, 5);
        q.query();
        Use.runs("no order", q, 6);
        Use.column("no order", q, 2, 0, 1, 2, 3, 4, 5);
    }

    private static void sorted(String what, FrameQueries q, int sorts, Integer... column2) {
        Use.runs(what, q, 6);
        Check.due(what + ": sorts()", q.sorts(), sorts);
        Use.column(what, q, 2, column2);
    }

    private static void orderNeedsNoSort() {
        FrameQueries q = sample();
        q.window(0, 0, 1);
        q.over(0, 1, 0, true);
        q.order(1, false);
        sorted("the first key is the order", q, 1, 0, 1, 4, 3, 2, 5);
        q.over(0, NONE, 0, true);
        q.order(0, true);
        sorted("the one key is the order", q, 1, 0, 3, 2, 5, 1, 4);
        q.query();
        q.window(0, 0, 1);
        q.over(0, 1, 0, true);
        sorted("no order: the windows' stays", q, 1, 0, 1, 4, 3, 2, 5);
    }

    private static void orderNeedsASort() {
        FrameQueries q = sample();
        q.window(0, 0, 1);
        q.over(0, 1, 0, true);
        q.order(1, true);
        sorted("another direction", q, 2, 2, 3, 5, 0, 1, 4);
        q.order(0, true);
        sorted("the second key", q, 2, 0, 3, 2, 5, 1, 4);
        q.over(0, NONE, NONE, true);
        sorted("no keys", q, 2, 0, 3, 2, 5, 1, 4);
        q.query();
        sorted("nothing", q, 1, 0, 1, 2, 3, 4, 5);
        q.window(0, 0, 1);
        sorted("a window without keys", q, 1, 0, 1, 2, 3, 4, 5);
    }

    private static int sortsOf(int[]... overs) {
        FrameQueries q = sample();
        for (int w = 0; w < overs.length; w++) {
            q.window(0, 0, 1);
            Check.yes("over", q.over(w, overs[w][0], overs[w][1], overs[w][2] == 1));
        }
        Use.runs("windows", q, 6);
        return q.sorts();
    }

    private static void windowsShareSorts() {
        int[] none = {NONE, NONE, 0};
        Check.due("one sort by no keys", sortsOf(none, none, none), 1);
        Check.due("the same keys", sortsOf(new int[] {0, 1, 1}, new int[] {0, 1, 1}), 1);
        Check.due("the first key as partition", sortsOf(new int[] {0, 1, 1}, new int[] {0, NONE, 0}), 1);
        Check.due("no direction without an order", sortsOf(new int[] {0, 1, 0}, new int[] {0, NONE, 1}), 1);
        Check.due("the first key as order", sortsOf(new int[] {0, 1, 1}, new int[] {NONE, 0, 0}), 1);
        Check.due("fewer and fewer keys", sortsOf(none, new int[] {0, NONE, 0}, new int[] {0, 1, 0}), 1);
        Check.due("order down twice", sortsOf(new int[] {NONE, 2, 1}, new int[] {NONE, 2, 1}), 1);
        Check.due("one column as both keys", sortsOf(new int[] {NONE, 2, 0}, new int[] {2, 2, 1}), 1);
    }

    private static void windowsDoNotShareSorts() {
        int[] none = {NONE, NONE, 0};
        Check.due("another direction", sortsOf(new int[] {0, 1, 1}, new int[] {0, 1, 0}), 2);
        Check.due("there and back", sortsOf(new int[] {0, 1, 1}, new int[] {0, 1, 0}, new int[] {0, 1, 1}), 3);
        Check.due("the first key, down", sortsOf(new int[] {0, 1, 1}, new int[] {NONE, 0, 1}), 2);
        Check.due("the second key", sortsOf(new int[] {0, 1, 0}, new int[] {1, NONE, 0}), 2);
        Check.due("other keys, then none", sortsOf(new int[] {NONE, 0, 1}, new int[] {0, NONE, 0}, none), 2);
        Check.due("three partitions", sortsOf(new int[] {0, NONE, 0}, new int[] {1, NONE, 0}, new int[] {2, NONE, 0}), 3);
        Check.due("the last sort alone", sortsOf(new int[] {0, 1, 0}, new int[] {1, 0, 0}, new int[] {0, NONE, 0}), 3);
    }

    /** Row numbers without a partition show in which order the list was then. */
    private static void windowsWithMoreKeysFirst() {
        FrameQueries q = sample();
        q.window(0, 0, 1);
        q.window(0, 0, 1);
        q.over(1, NONE, 1, true);
        q.window(0, 0, 1);
        q.over(2, 1, 0, false);
        q.order(2, false);
        Use.runs("more keys first", q, 6);
        Check.due("more keys first: sorts()", q.sorts(), 3);
        Use.column("by columns 1 and 0", q, 8, 3, 1, 2, 3, 2, 1);
        Use.column("by column 1 down", q, 7, 4, 5, 1, 2, 6, 3);
        Use.column("as the list was sorted last", q, 6, 4, 5, 1, 2, 6, 3);
    }

    private static void sortsOfEmptyLists() {
        FrameQueries q = new FrameQueries(4);
        Use.runs("empty", q, 0);
        Use.counts("empty", q, 0, 0, 1);
        q.window(0, 0, 1);
        q.over(0, 0, 1, false);
        q.window(8, 0, 1);
        q.over(1, 1, 0, false);
        q.order(2, false);
        Use.runs("empty, with windows", q, 0);
        Use.counts("empty, with windows", q, 0, 0, 3);
    }
}
