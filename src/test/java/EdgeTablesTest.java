/** The edges of promises 1 (a new object), 2 (insert), 3 (clear) and 17 (rows), and of the terms for tables. */
public final class EdgeTablesTest {
    private static final int MIN = Edge.MIN;
    private static final int MAX = Edge.MAX;

    public static void main(String[] args) {
        emptyTables();
        emptyQuery();
        noResult();
        framesAsGiven();
        framesOtherwise();
        lastCall();
        values();
        mostRows();
        rowsInTheirOrder();
        columnsWithoutAJoin();
        insertAppends();
        insertBits();
        insertIntoNoTable();
        insertWrongNulls();
        insertIntoAFullTable();
        clearTakesAllAway();
        clearNoTable();
        rowsOfATable();
        rowsOfNoTable();
        Check.end();
    }

    private static void emptyTables() {
        Check.sentence("1: Empty tables");
        for (int frames = 2; frames <= 9; frames++) {
            FrameQueries q = new FrameQueries(frames);
            Check.due("rows(0)", q.rows(0), 0);
            Check.due("rows(1)", q.rows(1), 0);
            Use.runs("a new object", q, 0);
            Use.counts("a new object", q, 0, 0, 1);
        }
    }

    private static void emptyQuery() {
        Check.sentence("1: the empty query (no filter, join, windows and order)");
        FrameQueries q = new FrameQueries(4);
        Check.no("over(0, ..)", q.over(0, 0, 0, false));
        Check.no("frame(0, ..)", q.frame(0, false, 0, 0));
        Use.fill(q, 0, new Integer[][] {{MAX, 2, 0}, {null, 1, 0}, {MIN, 0, 0}, {0, null, 0}});
        Use.fill(q, 1, new Integer[][] {{0, 2, 0}});
        Use.runs("the empty query", q, 4);
        Use.column("no filter, no order", q, 0, MAX, null, MIN, 0);
        for (int c = 3; c < 9; c++) {
            Use.column("no join, no windows", q, c, null, null, null, null);
        }
        Check.due("the first window", q.window(0, 0, 1), 0);
    }

    private static void noResult() {
        Check.sentence("1: no result");
        FrameQueries q = new FrameQueries(4);
        Use.noResult("a new object", q);
        Use.fillCounting(q, 0, 2);
        q.window(0, 0, 1);
        q.order(0, false);
        Use.noResult("before a run", q);
    }

    /** 4 * (M - 2) rows are the largest partition, and it holds M. */
    private static void showsFrames(int given, int frames) {
        int most = 4 * (frames - 2);
        String what = "new FrameQueries(" + given + ")";
        FrameQueries q = Edge.counting(given, most);
        q.window(0, 0, 1);
        Use.runs(what, q, most);
        Check.due(what + ": held()", q.held(), frames);
        FrameQueries more = Edge.joining(given, most + 1);
        more.window(0, 0, 1);
        Use.runs(what + " with a row more", more, Edge.ROOM);
    }

    private static void framesAsGiven() {
        Check.sentence("1: M is frames when that is 3 .. 8");
        for (int frames = 3; frames <= 8; frames++) {
            showsFrames(frames, frames);
        }
    }

    private static void framesOtherwise() {
        Check.sentence("1: otherwise 4");
        for (int frames : Edge.outside(3, 8)) {
            showsFrames(frames, 4);
        }
        for (int frames = -8; frames <= 2; frames++) {
            showsFrames(frames, 4);
        }
    }

    private static void lastCall() {
        Check.sentence("An object is used for at most 512 calls after it has been made");
        FrameQueries q = new FrameQueries(4);
        for (int call = 1; call <= 510; call++) {
            Check.due("rows(0)", q.rows(0), 0);
        }
        Check.yes("call 511, insert", q.insert(0, 7, 7, 7, 0));
        Check.due("call 512, run()", q.run(), 1);
        q = new FrameQueries(4);
        q.window(8, 0, 1);
        for (int call = 2; call <= 511; call += 2) {
            q.insert(0, 1, 0, 0, 0);
            q.run();
        }
        Check.due("call 512 after 255 runs", q.rows(0), 24);
    }

    private static void values() {
        Check.sentence("VALUES are ints or NULL");
        FrameQueries q = new FrameQueries(4);
        int[] ints = {MIN, MIN + 1, -1, 0, 1, MAX - 1, MAX};
        for (int value : ints) {
            Check.yes("insert " + value, q.insert(0, value, 0, 0, 6));
        }
        q.insert(0, MIN, 0, 0, 7);
        q.insert(0, MAX, 0, 0, 7);
        Use.runs("values", q, 9);
        Use.column("values", q, 0, MIN, MIN + 1, -1, 0, 1, MAX - 1, MAX, null, null);
    }

    private static void mostRows() {
        Check.sentence("A TABLE 0 or 1 has three columns and at most 24 rows");
        FrameQueries q = new FrameQueries(8);
        for (int i = 0; i < 24; i++) {
            Check.yes("row " + i + " of table 0", q.insert(0, i, 100 + i, 200 + i, 0));
            Check.yes("row " + i + " of table 1", q.insert(1, i, 300 + i, 400 + i, 0));
        }
        Check.no("row 24 of table 0", q.insert(0, 24, 24, 24, 0));
        Check.no("row 24 of table 1", q.insert(1, 24, 24, 24, 0));
        q.join(0, 0);
        Use.runs("two full tables", q, 24);
        for (int i = 0; i < 24; i++) {
            Check.due("row " + i, q.cell(i, 0), i);
            Check.due("row " + i, q.cell(i, 1), 100 + i);
            Check.due("row " + i, q.cell(i, 2), 200 + i);
            Check.due("row " + i, q.cell(i, 3), i);
            Check.due("row " + i, q.cell(i, 4), 300 + i);
            Check.due("row " + i, q.cell(i, 5), 400 + i);
        }
    }

    /** With the same keys in all rows the origin alone orders them: row 0 of both to row 23 of both. */
    private static void rowsInTheirOrder() {
        Check.sentence("their ORIGIN: the number of their row of table 0, then that of table 1 (-1 without a join)");
        FrameQueries q = new FrameQueries(8);
        for (int i = 0; i < 24; i++) {
            q.insert(0, i < 2 || i == 23 ? 1 : 0, i, 0, 0);
            q.insert(1, i > 3 && i < 23 ? 2 : 1, i, 0, 0);
        }
        q.order(2, true);
        Use.runs("24 rows without a join", q, 24);
        for (int i = 0; i < 24; i++) {
            Check.due("row " + i, q.cell(i, 1), i);
        }
        q.join(0, 0);
        Use.runs("three rows with five", q, 15);
        Use.column("table 0's row first", q, 1, 0, 0, 0, 0, 0, 1, 1, 1, 1, 1, 23, 23, 23, 23, 23);
        Use.column("then table 1's", q, 4, 0, 1, 2, 3, 23, 0, 1, 2, 3, 23, 0, 1, 2, 3, 23);
        q.order(1, true);
        Use.runs("table 0's rows down", q, 15);
        Use.column("table 1's row still up", q, 4, 0, 1, 2, 3, 23, 0, 1, 2, 3, 23, 0, 1, 2, 3, 23);
    }

    private static void columnsWithoutAJoin() {
        Check.sentence("3 .. 5 those of table 1 (NULL without a join)");
        FrameQueries q = new FrameQueries(4);
        Use.fill(q, 0, new Integer[][] {{1, 1, 1}, {2, 2, 2}});
        Use.fill(q, 1, new Integer[][] {{1, 8, 9}, {2, 8, 9}});
        q.join(0, 0);
        Use.runs("with a join", q, 2);
        Use.column("with a join", q, 5, 9, 9);
        q.query();
        q.window(9, 5, 1);
        q.over(0, 3, 4, true);
        q.order(5, true);
        Use.runs("without a join", q, 2);
        for (int c = 3; c < 6; c++) {
            Use.column("without a join", q, c, null, null);
        }
        Use.column("COUNT of NULLs", q, 6, 0, 0);
        Use.column("by origin", q, 0, 1, 2);
    }

    private static void insertAppends() {
        Check.sentence("2: Appends a row to table t");
        FrameQueries q = new FrameQueries(8);
        for (int i = 0; i < 24; i++) {
            Check.yes("insert into 0", q.insert(0, 5 - i, i, 0, 0));
            Check.due("rows(0)", q.rows(0), i + 1);
            Check.due("rows(1)", q.rows(1), 0);
            Use.runs("a row more", q, i + 1);
            Check.due("the last row", q.cell(i, 1), i);
            Check.due("the first row", q.cell(0, 0), 5);
        }
        Check.yes("insert into 1", q.insert(1, 0, 0, 0, 0));
        Check.due("rows(0)", q.rows(0), 24);
        Check.due("rows(1)", q.rows(1), 1);
    }

    private static void insertBits() {
        Check.sentence("2: a column is NULL if its bit (1, 2, 4) of nulls is on");
        for (int nulls = 0; nulls <= 7; nulls++) {
            FrameQueries q = new FrameQueries(4);
            Check.yes("nulls " + nulls, q.insert(0, 5, 5, 5, nulls));
            Check.yes("nulls " + nulls, q.insert(1, 5, 6, 7, nulls));
            q.insert(0, 5, 6, 7, 0);
            Use.runs("nulls " + nulls, q, 2);
            for (int c = 0; c < 3; c++) {
                Check.due("nulls " + nulls + ", column " + c, q.isNull(0, c) ? 1 : 0, nulls >> c & 1);
                q.join(c, c);
                Check.due("nulls " + nulls + ", join " + c, q.run() > 0 ? 0 : 1, nulls >> c & 1);
                for (int other = 0; other < 3 && (nulls >> c & 1) == 0; other++) {
                    Check.due("table 1, nulls " + nulls + ", column " + other, q.isNull(0, 3 + other) ? 1 : 0, nulls >> other & 1);
                }
                q.query();
                q.run();
            }
        }
    }

    private static void insertIntoNoTable() {
        Check.sentence("2: False, changing nothing, when t is not 0 or 1");
        for (int t : Edge.outside(0, 1)) {
            Edge.changesNothing("insert(" + t + ", ..)", Edge::busy, q -> !q.insert(t, 1, 1, 1, 0));
        }
    }

    private static void insertWrongNulls() {
        Check.sentence("2: False, changing nothing, when [..] nulls is not 0 .. 7");
        for (int nulls : Edge.outside(0, 7)) {
            Edge.changesNothing("insert(0, .., " + nulls + ")", Edge::busy, q -> !q.insert(0, 1, 1, 1, nulls));
            Edge.changesNothing("insert(1, .., " + nulls + ")", Edge::busy, q -> !q.insert(1, 1, 1, 1, nulls));
        }
        FrameQueries q = new FrameQueries(4);
        Check.yes("nulls 0", q.insert(0, 1, 1, 1, 0));
        Check.yes("nulls 7", q.insert(1, 1, 1, 1, 7));
    }

    /** The rows that fill the tables join nothing, so that their join stays small. */
    private static FrameQueries full() {
        FrameQueries q = Edge.busy();
        while (q.rows(0) < 24) {
            Check.yes("a row of 24", q.insert(0, 70, 0, 0, 0));
        }
        while (q.rows(1) < 24) {
            Check.yes("a row of 24", q.insert(1, 71, 0, 0, 0));
        }
        return q;
    }

    private static void insertIntoAFullTable() {
        Check.sentence("2: False, changing nothing, when [..] 24 rows are there");
        for (int t = 0; t < 2; t++) {
            int table = t;
            Edge.changesNothing("row 24 of table " + t, EdgeTablesTest::full, q -> !q.insert(table, 1, 1, 1, 0));
            FrameQueries q = new FrameQueries(4);
            Use.fillCounting(q, t, 23);
            Check.yes("the last row of table " + t, q.insert(t, 0, 0, 0, 0));
            Check.no("a row behind it", q.insert(t, 0, 0, 0, 0));
            Check.yes("the other table has room", q.insert(1 - t, 0, 0, 0, 0));
            q.clear(t);
            Check.yes("there is room again", q.insert(t, 0, 0, 0, 0));
        }
    }

    private static void clearTakesAllAway() {
        Check.sentence("3: Takes all rows of table t away");
        int[] counts = {0, 1, 23, 24};
        for (int count : counts) {
            for (int t = 0; t < 2; t++) {
                FrameQueries q = new FrameQueries(4);
                Use.fillCounting(q, t, count);
                Use.fillCounting(q, 1 - t, 3);
                Check.yes("clear(" + t + ")", q.clear(t));
                Check.due("rows(" + t + ")", q.rows(t), 0);
                Check.due("rows of the other", q.rows(1 - t), 3);
                Check.yes("clear again", q.clear(t));
                Use.runs("what stays of table 0", q, t == 0 ? 0 : 3);
                Use.fillSame(q, t, 1, 9);
                q.order(0, true);
                Use.runs("a new row", q, t == 0 ? 1 : 3);
                Check.due("a new row", q.cell(0, 0), t == 0 ? 9 : 2);
            }
        }
        FrameQueries q = Edge.busy();
        String before = Edge.seen(q, 7).replaceFirst("rows 6 5", "rows 0 0");
        q.clear(0);
        q.clear(1);
        Check.same("the result stays", Edge.seen(q, 7), before);
    }

    private static void clearNoTable() {
        Check.sentence("3: false when it is not 0 or 1");
        for (int t : Edge.outside(0, 1)) {
            Edge.changesNothing("clear(" + t + ")", Edge::busy, q -> !q.clear(t));
        }
    }

    private static void rowsOfATable() {
        Check.sentence("17: How many rows table t has");
        for (int count = 0; count <= 24; count++) {
            FrameQueries q = new FrameQueries(4);
            Use.fillCounting(q, 0, count);
            Use.fillCounting(q, 1, 24 - count);
            Check.due("rows(0)", q.rows(0), count);
            Check.due("rows(1)", q.rows(1), 24 - count);
            q.filter(0, 3, 0);
            q.run();
            Check.due("rows(0) after a run", q.rows(0), count);
            Check.due("rows(1) after a run", q.rows(1), 24 - count);
        }
    }

    private static void rowsOfNoTable() {
        Check.sentence("17: NONE when it is not 0 or 1");
        FrameQueries q = Edge.busy();
        for (int t : Edge.outside(0, 1)) {
            Check.due("rows(" + t + ")", q.rows(t), Edge.NONE);
        }
    }
}
