import java.util.function.Predicate;

/** The edges of promises 4 (query), 5 (filter), 6 (join), 7 (window), 8 (over), 9 (frame) and 10 (order). */
public final class EdgeQueryTest {
    private static final int NONE = Edge.NONE;
    private static final int MIN = Edge.MIN;
    private static final int MAX = Edge.MAX;

    public static void main(String[] args) {
        queryBecomesEmpty();
        queryTakesEachPartAway();
        queryLeavesTheRest();
        filterColumns();
        filterOps();
        filterNumbers();
        filterTakesThePlace();
        filterRefuses();
        joinColumns();
        joinTakesThePlace();
        joinRefuses();
        windowNumbers();
        windowTakes();
        windowStartsPlain();
        windowRefuses();
        windowThreeAreThere();
        overTakes();
        overRefuses();
        overNoWindow();
        overRangeNeedsOrder();
        frameTakes();
        frameRefuses();
        frameNoWindow();
        frameRangeNeedsOrder();
        orderTakes();
        orderOfNoWindow();
        orderTakesThePlace();
        orderRefuses();
        Check.end();
    }

    private static void queryBecomesEmpty() {
        Check.sentence("4: The query becomes the empty one");
        FrameQueries q = Edge.busyWithThreeWindows();
        q.query();
        for (int w = 0; w < 3; w++) {
            Check.no("over(" + w + ", ..)", q.over(w, 0, 0, false));
            Check.no("frame(" + w + ", ..)", q.frame(w, false, 0, 0));
        }
        Use.runs("the empty query", q, 6);
        Use.column("no filter, no join, no order", q, 2, 10, 20, 30, null, 50, 60);
        for (int c = 3; c < 9; c++) {
            Use.column("NULL in column " + c, q, c, null, null, null, null, null, null);
        }
        Use.counts("the empty query", q, 8, 2, 1);
        q.query();
        Use.runs("the empty query once more", q, 6);
        for (int w = 0; w < 3; w++) {
            Check.due("a new window", q.window(0, 0, 1), w);
        }
    }

    /** Each part alone, so that no other part of the query hides that it stays. */
    private static void queryTakesEachPartAway() {
        Check.sentence("4: The query becomes the empty one", "no filter, join, windows and order");
        isEmptyAfter("a filter", q -> q.filter(0, 1, 2));
        isEmptyAfter("a join", q -> q.join(0, 0));
        isEmptyAfter("a window", q -> q.window(0, 0, 1) == 0 && q.over(0, 0, 1, true));
        isEmptyAfter("an order", q -> q.order(0, false));
        isEmptyAfter("an order down", q -> q.order(1, true));
    }

    private static void isEmptyAfter(String what, Predicate<FrameQueries> added) {
        FrameQueries q = Use.withTable0(4, new Integer[][] {{3, 1, 0}, {2, 2, 0}, {1, 3, 0}});
        Use.fill(q, 1, new Integer[][] {{2, 0, 0}});
        Check.yes(what, added.test(q));
        q.query();
        Use.runs(what + " and query()", q, 3);
        Use.column(what + " and query()", q, 0, 3, 2, 1);
        Use.column(what + " and query()", q, 3, null, null, null);
        Use.column(what + " and query()", q, 6, null, null, null);
        Use.counts(what + " and query()", q, 4, 2, 1);
    }

    private static void queryLeavesTheRest() {
        Check.sentence("4: The query becomes the empty one", "and nothing else changes");
        Edge.leavesTheResult("query()", q -> {
            q.query();
            return true;
        });
    }

    private static void filterColumns() {
        Check.sentence("5: column c (0 .. 2)");
        FrameQueries q = Use.withTable0(4, new Integer[][] {{1, 2, 3}, {2, 3, 1}, {3, 1, 2}});
        Integer[] first = {1, 3, 2};
        for (int c = 0; c <= 2; c++) {
            Check.yes("filter(" + c + ", 1, 1)", q.filter(c, 1, 1));
            Use.runs("column " + c, q, 1);
            Use.column("column " + c, q, 0, first[c]);
        }
        Edge.leavesTheResult("filter(0, 0, 0)", o -> o.filter(0, 0, 0));
    }

    private static void kept(int op, int x, Integer... want) {
        FrameQueries q = Use.withTable0(4, new Integer[][] {
            {MIN, 0, 0}, {MIN + 1, 0, 0}, {-1, 0, 0}, {0, 0, 0}, {1, 0, 0}, {MAX - 1, 0, 0}, {MAX, 0, 0}, {null, 0, 0},
        });
        String what = "filter(0, " + op + ", " + x + ")";
        Check.yes(what, q.filter(0, op, x));
        Use.runs(what, q, want.length);
        Use.column(what, q, 0, want);
    }

    private static void filterOps() {
        Check.sentence("5: less than x for op 0, equal to it for 1, greater for 2, NULL for 3, not NULL for 4");
        kept(0, MIN);
        kept(0, MIN + 1, MIN);
        kept(0, 0, MIN, MIN + 1, -1);
        kept(0, 1, MIN, MIN + 1, -1, 0);
        kept(0, MAX, MIN, MIN + 1, -1, 0, 1, MAX - 1);
        kept(1, MIN, MIN);
        kept(1, 0, 0);
        kept(1, MAX, MAX);
        kept(1, 2);
        kept(2, MAX);
        kept(2, MAX - 1, MAX);
        kept(2, 0, 1, MAX - 1, MAX);
        kept(2, -1, 0, 1, MAX - 1, MAX);
        kept(2, MIN, MIN + 1, -1, 0, 1, MAX - 1, MAX);
    }

    private static void filterNumbers() {
        Check.sentence("5: (x does not matter then)");
        int[] numbers = {MIN, -1, 0, 1, MAX};
        for (int x : numbers) {
            kept(3, x, (Integer) null);
            kept(4, x, MIN, MIN + 1, -1, 0, 1, MAX - 1, MAX);
        }
    }

    private static void filterTakesThePlace() {
        Check.sentence("5: in place of one that it has");
        FrameQueries q = Use.withTable0(4, new Integer[][] {{1, 5, 0}, {2, 4, 0}, {3, 3, 0}});
        q.filter(0, 0, 2);
        q.filter(1, 0, 5);
        Use.runs("the second alone", q, 2);
        Use.column("the second alone", q, 0, 2, 3);
        q.filter(1, 4, 0);
        Use.runs("the third alone", q, 3);
    }

    private static void filterRefuses() {
        Check.sentence("5: False, changing nothing, when a number is not as said");
        for (int c : Edge.outside(0, 2)) {
            Edge.changesNothing("filter(" + c + ", 0, 0)", Edge::busy, q -> !q.filter(c, 0, 0));
            Edge.changesNothing("filter(" + c + ", 3, 0)", Edge::busy, q -> !q.filter(c, 3, 0));
        }
        for (int op : Edge.outside(0, 4)) {
            Edge.changesNothing("filter(0, " + op + ", 0)", Edge::busy, q -> !q.filter(0, op, 0));
        }
        FrameQueries q = Edge.counting(4, 3);
        Check.no("filter(3, 1, 1) without one before", q.filter(3, 1, 1));
        Check.no("filter(0, 5, 1) without one before", q.filter(0, 5, 1));
        Use.runs("no filter", q, 3);
    }

    private static void joinColumns() {
        Check.sentence("6: column x of table 0 with column y of table 1 (both 0 .. 2)");
        FrameQueries q = Use.withTable0(4, new Integer[][] {{1, 2, 3}, {10, 20, 30}});
        Use.fill(q, 1, new Integer[][] {{1, 3, 2}, {2, 1, 3}, {3, 2, 1}, {30, 20, 10}});
        for (int x = 0; x <= 2; x++) {
            for (int y = 0; y <= 2; y++) {
                String what = "join(" + x + ", " + y + ")";
                int[] tens = {30, 20, 10};
                boolean tenJoins = 10 * (x + 1) == tens[y];
                Check.yes(what, q.join(x, y));
                Use.runs(what, q, tenJoins ? 2 : 1);
                Check.due(what, q.cell(0, x), x + 1);
                Check.due(what, q.cell(0, 3 + y), x + 1);
            }
        }
        Edge.leavesTheResult("join(1, 1)", o -> o.join(1, 1));
    }

    private static void joinTakesThePlace() {
        Check.sentence("6: The query's join", "in place of one that it has");
        FrameQueries q = Use.withTable0(4, new Integer[][] {{1, 2, 3}});
        Use.fill(q, 1, new Integer[][] {{1, 9, 2}, {9, 9, 2}});
        q.join(0, 0);
        q.join(1, 2);
        Use.runs("the second alone", q, 2);
        q.join(0, 1);
        Use.runs("the third alone", q, 0);
    }

    private static void joinRefuses() {
        Check.sentence("6: False, changing nothing, when a number is not as said");
        for (int c : Edge.outside(0, 2)) {
            Edge.changesNothing("join(" + c + ", 1)", Edge::busy, q -> !q.join(c, 1));
            Edge.changesNothing("join(1, " + c + ")", Edge::busy, q -> !q.join(1, c));
            FrameQueries q = Edge.counting(4, 3);
            Check.no("without one before", q.join(c, 0));
            Check.no("without one before", q.join(0, c));
            Use.runs("no join", q, 3);
        }
    }

    private static void windowNumbers() {
        Check.sentence("7: Answers its number");
        FrameQueries q = Edge.counting(4, 2);
        for (int w = 0; w < 3; w++) {
            Check.due("window " + w, q.window(4, w, 1), w);
            Check.no("there is no window behind it", q.over(w + 1, 0, 0, false));
        }
        Use.runs("three windows", q, 2);
        Use.column("window 0", q, 6, null, 0);
        Use.column("window 1", q, 7, null, 0);
        Use.column("window 2", q, 8, null, 0);
        Edge.leavesTheResult("window(0, 0, 1)", o -> o.window(0, 0, 1) == 2);
    }

    private static void windowTakes() {
        Check.sentence("7: the function f (0 .. 11), the argument column arg (0 .. 5) and n (1 .. 9)");
        for (int f = 0; f <= 11; f++) {
            for (int arg = 0; arg <= 5; arg++) {
                FrameQueries q = Edge.counting(4, 2);
                Check.due("window(" + f + ", " + arg + ", 1)", q.window(f, arg, 1), 0);
                Check.due("window(" + f + ", " + arg + ", 5)", q.window(f, arg, 5), 1);
                Check.due("window(" + f + ", " + arg + ", 9)", q.window(f, arg, 9), 2);
                Use.runs("three windows", q, 2);
            }
        }
        FrameQueries q = new FrameQueries(4);
        Use.fill(q, 0, new Integer[][] {{1, 2, 3}});
        Use.fill(q, 1, new Integer[][] {{1, 5, 6}});
        q.join(0, 0);
        Integer[] values = {1, 2, 3, 1, 5, 6};
        for (int first = 0; first <= 3; first += 3) {
            for (int w = 0; w < 3; w++) {
                q.window(8, first + w, 1);
            }
            Use.runs("arguments", q, 1);
            for (int w = 0; w < 3; w++) {
                Use.column("argument " + (first + w), q, 6 + w, values[first + w]);
            }
            q.query();
            q.join(0, 0);
        }
    }

    private static void windowStartsPlain() {
        Check.sentence("7: no partition and order columns; its frame is by ROWS with no bounds");
        FrameQueries q = Edge.counting(8, 24);
        for (int w = 0; w < 3; w++) {
            q.window(8, 0, 1);
            q.over(w, 0, 1, true);
            q.frame(w, true, -2, 2);
        }
        q.query();
        for (int w = 0; w < 3; w++) {
            q.window(9, 0, 1);
            Check.no("RANGE without an order column", q.frame(w, true, 0, 0));
        }
        Use.runs("one partition and one frame of 24", q, 24);
        for (int c = 6; c < 9; c++) {
            Check.due("the first row's frame", q.cell(0, c), 24);
            Check.due("the last row's frame", q.cell(23, c), 24);
        }
        Check.due("no keys: sorts()", q.sorts(), 1);
        Use.column("no keys", q, 0, 0, 1, 2, 3, 4, 5, 6, 7, 8, 9, 10, 11, 12, 13, 14, 15, 16, 17, 18, 19, 20, 21, 22, 23);
        Check.yes("by ROWS it may go without an order column", q.over(0, NONE, NONE, false));
    }

    private static void windowRefuses() {
        Check.sentence("7: NONE, changing nothing, when a number is not as said");
        for (int f : Edge.outside(0, 11)) {
            Edge.changesNothing("window(" + f + ", 0, 1)", Edge::busy, q -> q.window(f, 0, 1) == NONE);
        }
        for (int arg : Edge.outside(0, 5)) {
            Edge.changesNothing("window(8, " + arg + ", 1)", Edge::busy, q -> q.window(8, arg, 1) == NONE);
        }
        for (int n : Edge.outside(1, 9)) {
            for (int f = 0; f <= 11; f++) {
                int function = f;
                Edge.changesNothing("window(" + f + ", 0, " + n + ")", Edge::busy, q -> q.window(function, 0, n) == NONE);
            }
        }
    }

    private static void windowThreeAreThere() {
        Check.sentence("7: NONE, changing nothing, when [..] three are there");
        Edge.changesNothing("a fourth window", Edge::busyWithThreeWindows, q -> q.window(0, 0, 1) == NONE);
        Edge.changesNothing("a fourth window", Edge::busyWithThreeWindows, q -> q.window(8, 2, 9) == NONE);
    }

    private static void overTakes() {
        Check.sentence("8: its partition column and its order column (each 0 .. 5, or NONE for none)");
        for (int partition = NONE; partition <= 5; partition++) {
            for (int order = NONE; order <= 5; order++) {
                FrameQueries q = Use.withTable0(4, new Integer[][] {{1, 2, 3}, {1, 5, 6}});
                Use.fill(q, 1, new Integer[][] {{1, 2, 3}, {1, 5, 6}});
                q.join(0, 0);
                q.window(9, 0, 1);
                q.window(1, 0, 1);
                String what = "over(.., " + partition + ", " + order + ", ..)";
                Check.yes(what, q.over(0, partition, order, false));
                Check.yes(what, q.over(1, partition, order, true));
                Use.runs(what, q, 4);
                // columns 0 and 3 have one value, the others two
                boolean parts = partition > 0 && partition != 3;
                boolean orders = order > 0 && order != 3 && order != partition && !sameTable(partition, order);
                Check.due(what + ": rows of a partition", q.cell(0, 6), parts ? 2 : 4);
                Check.due(what + ": rank of the last row", q.cell(3, 7), !orders ? 1 : parts ? 2 : 3);
            }
        }
        Edge.leavesTheResult("over(1, 5, 5, true)", o -> o.over(1, 5, 5, true));
    }

    /** Columns 1 and 2 of a table go together here, so that one orders nothing in a partition of the other. */
    private static boolean sameTable(int partition, int order) {
        return partition > 0 && partition != 3 && partition / 3 == order / 3;
    }

    private static void overRefuses() {
        Check.sentence("8: False, changing nothing, when a number is not as said");
        for (int c : Edge.outside(NONE, 5)) {
            Edge.changesNothing("over(0, " + c + ", 2, false)", Edge::busy, q -> !q.over(0, c, 2, false));
            Edge.changesNothing("over(0, 1, " + c + ", false)", Edge::busy, q -> !q.over(0, 1, c, false));
            Edge.changesNothing("over(1, " + c + ", 2, true)", Edge::busy, q -> !q.over(1, c, 2, true));
            Edge.changesNothing("over(1, 1, " + c + ", true)", Edge::busy, q -> !q.over(1, 1, c, true));
        }
    }

    private static void overNoWindow() {
        Check.sentence("8: Window w", "one that there is");
        for (int w : Edge.outside(0, 1)) {
            Edge.changesNothing("over(" + w + ", ..) of two", Edge::busy, q -> !q.over(w, 1, 2, false));
        }
        for (int w : Edge.outside(0, 2)) {
            Edge.changesNothing("over(" + w + ", ..) of three", Edge::busyWithThreeWindows, q -> !q.over(w, 1, 2, false));
        }
        FrameQueries q = new FrameQueries(4);
        for (int w = 0; w < 3; w++) {
            Check.no("before there is a window " + w, q.over(w, 0, 0, false));
            q.window(0, 0, 1);
            Check.yes("window " + w, q.over(w, 0, 0, false));
        }
    }

    private static void overRangeNeedsOrder() {
        Check.sentence("8: False, changing nothing, when [..] its frame is by RANGE and order is NONE");
        for (int partition = NONE; partition <= 5; partition++) {
            int column = partition;
            Edge.changesNothing("over(0, " + column + ", NONE, false)", Edge::busy, q -> !q.over(0, column, NONE, false));
            Edge.changesNothing("over(0, " + column + ", NONE, true)", Edge::busy, q -> !q.over(0, column, NONE, true));
        }
        FrameQueries q = Edge.busy();
        Check.yes("by RANGE another order column is taken", q.over(0, NONE, 5, true));
        Check.yes("by RANGE no partition column is taken", q.over(0, NONE, 0, false));
        Check.yes("the other window is by ROWS", q.over(1, NONE, NONE, false));
        q.frame(0, false, 0, 0);
        Check.yes("by ROWS no order column is taken", q.over(0, 0, NONE, false));
    }

    private static void frameTakes() {
        Check.sentence("9: from low (-10 .. 9) to high (-9 .. 10;");
        for (int low = -10; low <= 9; low++) {
            for (int high = -9; high <= 10; high++) {
                FrameQueries q = new FrameQueries(4);
                q.window(9, 0, 1);
                Check.yes("frame(0, false, " + low + ", " + high + ")", q.frame(0, false, low, high));
                q.over(0, NONE, 0, false);
                Check.yes("frame(0, true, " + low + ", " + high + ")", q.frame(0, true, low, high));
            }
        }
        Edge.leavesTheResult("frame(0, false, 9, -9)", o -> o.frame(0, false, 9, -9));
    }

    private static void frameRefuses() {
        Check.sentence("9: False, changing nothing, when a number is not as said");
        for (int low : Edge.outside(-10, 9)) {
            Edge.changesNothing("frame(0, false, " + low + ", 2)", Edge::busy, q -> !q.frame(0, false, low, 2));
            Edge.changesNothing("frame(0, true, " + low + ", 2)", Edge::busy, q -> !q.frame(0, true, low, 2));
            Edge.changesNothing("frame(1, false, " + low + ", 10)", Edge::busy, q -> !q.frame(1, false, low, 10));
        }
        for (int high : Edge.outside(-9, 10)) {
            Edge.changesNothing("frame(0, false, 0, " + high + ")", Edge::busy, q -> !q.frame(0, false, 0, high));
            Edge.changesNothing("frame(0, true, 0, " + high + ")", Edge::busy, q -> !q.frame(0, true, 0, high));
            Edge.changesNothing("frame(1, true, -10, " + high + ")", Edge::busy, q -> !q.frame(1, true, -10, high));
        }
    }

    private static void frameNoWindow() {
        Check.sentence("9: Window w", "one that there is");
        for (int w : Edge.outside(0, 1)) {
            Edge.changesNothing("frame(" + w + ", ..) of two", Edge::busy, q -> !q.frame(w, false, 0, 0));
            Edge.changesNothing("frame(" + w + ", ..) of two", Edge::busy, q -> !q.frame(w, true, 0, 0));
        }
        for (int w : Edge.outside(0, 2)) {
            Edge.changesNothing("frame(" + w + ", ..) of three", Edge::busyWithThreeWindows, q -> !q.frame(w, false, 0, 0));
        }
        FrameQueries q = new FrameQueries(4);
        for (int w = 0; w < 3; w++) {
            Check.no("before there is a window " + w, q.frame(w, false, 0, 0));
            q.window(0, 0, 1);
            Check.yes("window " + w, q.frame(w, false, 0, 0));
        }
    }

    private static FrameQueries busyWithoutOrderColumn() {
        FrameQueries q = Edge.busy();
        Check.yes("no order column", q.over(1, 4, NONE, true));
        return q;
    }

    private static void frameRangeNeedsOrder() {
        Check.sentence("9: False, changing nothing, when [..] range without an order column");
        Edge.changesNothing("frame(1, true, 0, 0)", EdgeQueryTest::busyWithoutOrderColumn, q -> !q.frame(1, true, 0, 0));
        Edge.changesNothing("frame(1, true, -10, 10)", EdgeQueryTest::busyWithoutOrderColumn, q -> !q.frame(1, true, -10, 10));
        Edge.changesNothing("frame(2, true, 1, 0)", Edge::busyWithThreeWindows, q -> !q.frame(2, true, 1, 0));
        FrameQueries q = busyWithoutOrderColumn();
        Check.yes("by ROWS it is taken", q.frame(1, false, 0, 0));
        q.over(1, NONE, 0, false);
        Check.yes("with order column 0 it is taken", q.frame(1, true, 0, 0));
        q.frame(1, false, 0, 0);
        q.over(1, NONE, NONE, false);
        Check.no("without one again it is not", q.frame(1, true, 0, 0));
    }

    private static void orderTakes() {
        Check.sentence("10: column c (0 .. 8; [..] up or down");
        Integer[][] rows = {{2, 1, 3}, {1, 3, 2}, {3, 2, 1}};
        for (int c = 0; c <= 8; c++) {
            for (int turn = 0; turn < 2; turn++) {
                FrameQueries q = Use.withTable0(4, rows);
                // column 0 of table 0 is its key, so columns 3 .. 5 and 6 .. 8 are as 0 .. 2 are
                Use.fill(q, 1, rows);
                q.join(0, 0);
                for (int w = 0; w < 3; w++) {
                    q.window(8, w, 1);
                    q.over(w, 0, NONE, false);
                }
                String what = "order(" + c + ", " + (turn == 1) + ")";
                Check.yes(what, q.order(c, turn == 1));
                Use.runs(what, q, 3);
                Use.column(what, q, c, turn == 1 ? new Integer[] {3, 2, 1} : new Integer[] {1, 2, 3});
            }
        }
        Edge.leavesTheResult("order(1, true)", o -> o.order(1, true));
    }

    private static void orderOfNoWindow() {
        Check.sentence("10: one of a window that there is not is NULL in all rows");
        for (int windows = 0; windows < 3; windows++) {
            for (int c = 6 + windows; c <= 8; c++) {
                FrameQueries q = Use.withTable0(4, new Integer[][] {{2, 0, 0}, {1, 0, 0}, {3, 0, 0}});
                for (int w = 0; w < windows; w++) {
                    q.window(0, 0, 1);
                    q.over(w, NONE, 0, true);
                }
                Check.yes("order(" + c + ", true)", q.order(c, true));
                Use.runs("by column " + c, q, 3);
                Use.column("all NULL", q, c, null, null, null);
                Use.column("by origin", q, 0, 2, 1, 3);
                Check.due("a sort of its own", q.sorts(), windows == 0 ? 1 : 2);
            }
        }
    }

    private static void orderTakesThePlace() {
        Check.sentence("10: The query's order", "in place of one that it has");
        FrameQueries q = Use.withTable0(4, new Integer[][] {{2, 7, 0}, {1, 7, 0}, {3, 8, 0}});
        q.order(0, false);
        q.order(1, true);
        Use.runs("the second alone", q, 3);
        Use.column("the second alone", q, 0, 3, 2, 1);
        Check.due("one sort", q.sorts(), 1);
        q.order(1, false);
        Use.runs("another direction", q, 3);
        Use.column("another direction", q, 0, 2, 1, 3);
    }

    private static void orderRefuses() {
        Check.sentence("10: False, changing nothing, when it is not that");
        for (int c : Edge.outside(0, 8)) {
            Edge.changesNothing("order(" + c + ", false)", Edge::busy, q -> !q.order(c, false));
            Edge.changesNothing("order(" + c + ", true)", Edge::busy, q -> !q.order(c, true));
            FrameQueries q = Use.withTable0(4, new Integer[][] {{2, 0, 0}, {1, 0, 0}});
            Check.no("without one before", q.order(c, false));
            Use.runs("no order", q, 2);
            Use.column("no order", q, 0, 2, 1);
        }
    }
}
