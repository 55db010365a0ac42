/** Promises 1 (a new object), 2 (insert), 3 (clear) and 17 (rows). */
public final class TablesTest {
    public static void main(String[] args) {
        newObject();
        framesOfNewObject();
        insertAppends();
        insertRefuses();
        insertFillsTables();
        clearTakesRowsAway();
        Check.end();
    }

    private static void newObject() {
        FrameQueries q = new FrameQueries(5);
        Check.due("new: rows(0)", q.rows(0), 0);
        Check.due("new: rows(1)", q.rows(1), 0);
        Use.noResult("new", q);
        Check.no("new: over(0, 0, 0, false)", q.over(0, 0, 0, false));
        Check.no("new: frame(0, false, 0, 0)", q.frame(0, false, 0, 0));
        // the empty query brings the rows as they are, so nothing was in it
        Use.fill(q, 0, new Integer[][] {{3, 1, 1}, {null, 2, 2}, {1, 3, 3}});
        Use.fill(q, 1, new Integer[][] {{3, 1, 1}});
        Use.noResult("before the first run", q);
        Use.runs("new", q, 3);
        Use.column("new", q, 0, 3, null, 1);
        for (int c = 3; c < 9; c++) {
            Use.column("new", q, c, null, null, null);
        }
    }

    /** A window over all rows shows M: 4 * (M - 2) rows are the most that it takes. */
    private static void framesOfNewObject() {
        int[][] framesAndTaken = {
            {3, 3}, {4, 4}, {5, 5}, {6, 6}, {7, 7}, {8, 8},
            {2, 4}, {9, 4}, {0, 4}, {1, 4}, {-1, 4}, {10, 4},
            {Integer.MIN_VALUE, 4}, {Integer.MAX_VALUE, 4},
        };
        for (int[] pair : framesAndTaken) {
            String what = "new FrameQueries(" + pair[0] + ")";
            FrameQueries q = new FrameQueries(pair[0]);
            int most = 4 * (pair[1] - 2);
            Use.fillCounting(q, 0, most);
            q.window(0, 0, 1);
            Use.runs(what, q, most);
            Check.due(what + ": held()", q.held(), pair[1]);
            if (most < 24) {
                q.insert(0, 0, 0, 0, 0);
                Use.runs(what + " and a row more", q, FrameQueries.ROOM);
            }
        }
    }

    private static void insertAppends() {
        FrameQueries q = new FrameQueries(4);
        int min = Integer.MIN_VALUE;
        int max = Integer.MAX_VALUE;
        for (int nulls = 0; nulls < 8; nulls++) {
            Check.yes("insert with nulls " + nulls, q.insert(0, min, nulls, max, nulls));
            Check.due("rows(0)", q.rows(0), nulls + 1);
        }
        Use.runs("insert", q, 8);
        Use.column("insert", q, 0, min, null, min, null, min, null, min, null);
        Use.column("insert", q, 1, 0, 1, null, null, 4, 5, null, null);
        Use.column("insert", q, 2, max, max, max, max, null, null, null, null);
        Check.due("rows(1)", q.rows(1), 0);
        Check.yes("insert into table 1", q.insert(1, min, 6, 7, 2));
        Check.due("rows(0)", q.rows(0), 8);
        Check.due("rows(1)", q.rows(1), 1);
        q.join(0, 0);
        Use.runs("insert", q, 4);
        Use.column("insert", q, 3, min, min, min, min);
        Use.column("insert", q, 4, null, null, null, null);
        Use.column("insert", q, 5, 7, 7, 7, 7);
    }

    private static void insertRefuses() {
        FrameQueries q = new FrameQueries(4);
        int[] noTables = {-1, 2, 3, Integer.MIN_VALUE, Integer.MAX_VALUE};
        for (int t : noTables) {
            Check.no("insert into table " + t, q.insert(t, 1, 1, 1, 0));
            Check.no("clear(" + t + ")", q.clear(t));
            Check.due("rows(" + t + ")", q.rows(t), FrameQueries.NONE);
        }
        int[] noNulls = {-1, 8, 15, -8, Integer.MIN_VALUE, Integer.MAX_VALUE};
        for (int nulls : noNulls) {
            Check.no("insert with nulls " + nulls, q.insert(0, 1, 1, 1, nulls));
            Check.no("insert with nulls " + nulls, q.insert(1, 1, 1, 1, nulls));
        }
        Check.due("refused: rows(0)", q.rows(0), 0);
        Check.due("refused: rows(1)", q.rows(1), 0);
        Use.runs("refused", q, 0);
    }

    private static void insertFillsTables() {
        for (int t = 0; t < 2; t++) {
            FrameQueries q = new FrameQueries(8);
            Use.fillCounting(q, t, 24);
            Check.no("a 25th row in table " + t, q.insert(t, 9, 9, 9, 0));
            Check.due("rows of a full table " + t, q.rows(t), 24);
            Check.due("rows of the other table", q.rows(1 - t), 0);
            Use.fillCounting(q, 1 - t, 24);
            q.join(0, 0);
            Use.runs("both full", q, 24);
            Check.due("the last row", q.cell(23, 0), 23);
        }
    }

    private static void clearTakesRowsAway() {
        FrameQueries q = new FrameQueries(4);
        Use.fillCounting(q, 0, 24);
        Use.fillCounting(q, 1, 2);
        Check.yes("clear(0)", q.clear(0));
        Check.due("cleared: rows(0)", q.rows(0), 0);
        Check.due("cleared: rows(1)", q.rows(1), 2);
        Check.yes("insert after clear", q.insert(0, 1, 42, 0, 0));
        Check.due("rows(0) again", q.rows(0), 1);
        Use.runs("after clear", q, 1);
        Use.column("after clear", q, 1, 42);
        Check.yes("clear(1)", q.clear(1));
        Check.yes("clear(1) of an empty table", q.clear(1));
        Check.due("cleared: rows(1)", q.rows(1), 0);
        Check.due("kept: rows(0)", q.rows(0), 1);
        q.join(0, 0);
        Use.runs("join with a cleared table", q, 0);
    }
}
