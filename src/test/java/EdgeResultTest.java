import java.util.function.Consumer;

/** The edges of promises 11 (run), 12 (cell), 13 (isNull), 14 (transfers), 15 (held) and 16 (sorts). */
public final class EdgeResultTest {
    private static final int NONE = Edge.NONE;
    private static final int ROOM = Edge.ROOM;
    private static final int OVERFLOW = Edge.OVERFLOW;
    private static final int MIN = Edge.MIN;
    private static final int MAX = Edge.MAX;

    public static void main(String[] args) {
        queryStays();
        resultTakesThePlace();
        resultStays();
        answersRows();
        answersRoom();
        answersOverflow();
        runsAfterAnError();
        cellColumns();
        cellRows();
        cellThatIsNull();
        cellThatIsNot();
        cellsOfLargeResults();
        isNullOfACell();
        isNullOfNoCell();
        transfersOfNoRun();
        heldOfNoRun();
        sortsOfNoRun();
        sortsOfEmptyLists();
        sortsByNoKeys();
        mostSorts();
        countsOfTheLatestRun();
        Check.end();
    }

    private static void queryStays() {
        Check.sentence("11: Runs the query, which stays");
        FrameQueries q = Edge.busy();
        Use.runs("run", q, 10);
        String first = Edge.seen(q, 10);
        Use.runs("run again", q, 10);
        Check.same("run again", Edge.seen(q, 10), first);
        FrameQueries wrong = roomy();
        for (int again = 0; again < 3; again++) {
            Use.runs("a query that ends with ROOM stays too", wrong, ROOM);
        }
        wrong.filter(0, 0, 4);
        Use.runs("and its window with it", wrong, 4);
        Use.column("and its window with it", wrong, 6, 1, 2, 3, 4);
    }

    private static void resultTakesThePlace() {
        Check.sentence("11: its result takes the place of the one before");
        FrameQueries q = Edge.counting(8, 24);
        q.window(0, 0, 1);
        Use.runs("24 rows", q, 24);
        q.query();
        q.filter(0, 1, 7);
        Use.runs("one row", q, 1);
        for (int c = 0; c < 9; c++) {
            Check.due("row 1 is gone", q.cell(1, c), 0);
            Check.no("row 1 is gone", q.isNull(1, c));
            Check.due("row 23 is gone", q.cell(23, c), 0);
            Check.no("row 23 is gone", q.isNull(23, c));
        }
        Use.column("the row", q, 0, 7);
        Use.column("the window's results are gone", q, 6, (Integer) null);
        q.filter(0, 3, 0);
        Use.runs("no row", q, 0);
        for (int c = 0; c < 9; c++) {
            Check.due("row 0 is gone", q.cell(0, c), 0);
            Check.no("row 0 is gone", q.isNull(0, c));
        }
    }

    private static void resultStays() {
        Check.sentence("11: (which stays as it is whatever becomes of tables and query)");
        Consumer<FrameQueries> clear0 = q -> q.clear(0);
        Consumer<FrameQueries> clear1 = q -> q.clear(1);
        Consumer<FrameQueries> insert0 = q -> q.insert(0, 9, 9, 9, 7);
        Consumer<FrameQueries> insert1 = q -> q.insert(1, 9, 9, 9, 0);
        staysAfter("insert(0, ..)", insert0);
        staysAfter("insert(1, ..)", insert1);
        staysAfter("clear(0)", clear0);
        staysAfter("clear(1)", clear1);
        staysAfter("clear(0), insert(0, ..)", clear0.andThen(insert0));
        staysAfter("clear(1), insert(1, ..)", clear1.andThen(insert1));
        staysAfter("query()", q -> q.query());
        staysAfter("filter(0, 3, 0)", q -> q.filter(0, 3, 0));
        staysAfter("join(2, 2)", q -> q.join(2, 2));
        staysAfter("window(0, 0, 1)", q -> q.window(0, 0, 1));
        staysAfter("over(0, 4, 5, false)", q -> q.over(0, 4, 5, false));
        staysAfter("frame(0, false, 0, 0)", q -> q.frame(0, false, 0, 0));
        staysAfter("order(0, false)", q -> q.order(0, false));
        staysAfter("cell and isNull", q -> Check.no("no cell", q.isNull(q.cell(-1, 0), -1)));
    }

    private static void staysAfter(String what, Consumer<FrameQueries> calls) {
        FrameQueries q = Edge.busy();
        String before = cellsAndCounts(q);
        calls.accept(q);
        Check.same("the result after " + what, cellsAndCounts(q), before);
    }

    private static String cellsAndCounts(FrameQueries q) {
        return Edge.seen(q, 7).replaceFirst("rows \\d+ \\d+", "");
    }

    private static void answersRows() {
        Check.sentence("11: Answers how many rows the result has");
        for (int rows = 0; rows <= 24; rows++) {
            Use.runs(rows + " rows of table 0", Edge.counting(4, rows), rows);
        }
        for (int rows = 0; rows <= 60; rows++) {
            Use.runs(rows + " rows of a join", Edge.joining(4, rows), rows);
        }
    }

    /** Five rows in one partition, one more than three frames take. */
    private static FrameQueries roomy() {
        FrameQueries q = Edge.counting(3, 5);
        q.window(0, 0, 1);
        return q;
    }

    private static void endsWithNothing(String what, FrameQueries q, int error) {
        Use.runs(what, q, error);
        Use.noResult(what, q);
        Check.due(what + ": cell(4, 0)", q.cell(4, 0), 0);
        Check.no(what + ": isNull(4, 3)", q.isNull(4, 3));
    }

    private static void answersRoom() {
        Check.sentence("11: ROOM [..] when it ended so (then there is no result, and nothing was transferred or held)");
        endsWithNothing("ROOM in the first run", roomy(), ROOM);
        FrameQueries q = Edge.counting(3, 5);
        Use.runs("a result before", q, 5);
        q.window(0, 0, 1);
        endsWithNothing("ROOM after a result", q, ROOM);
        endsWithNothing("ROOM once more", q, ROOM);
        FrameQueries joined = Edge.joining(5, 60);
        Use.runs("60 rows", joined, 60);
        Use.fillSame(joined, 0, 1, 2);
        endsWithNothing("ROOM in a join", joined, ROOM);
    }

    private static void answersOverflow() {
        Check.sentence("11: OVERFLOW when it ended so (then there is no result, and nothing was transferred or held)");
        FrameQueries q = Edge.over(8, 1, MAX, 1);
        endsWithNothing("OVERFLOW in the first run", q, OVERFLOW);
        q.filter(0, 1, 1);
        Use.runs("a result", q, 1);
        q.filter(0, 4, 1);
        endsWithNothing("OVERFLOW after a result", q, OVERFLOW);
    }

    private static void runsAfterAnError() {
        Check.sentence("11: Runs the query", "after one that ended with an error, as after any other");
        FrameQueries after = Edge.over(8, 1, MAX, 1, 5, 6);
        FrameQueries fresh = Edge.over(8, 1, MAX, 1, 5, 6);
        Use.runs("OVERFLOW", after, OVERFLOW);
        after.frame(0, false, 0, 0);
        fresh.frame(0, false, 0, 0);
        Use.runs("no error", after, 4);
        Use.runs("no error", fresh, 4);
        Check.same("no error", Edge.seen(after, 5), Edge.seen(fresh, 5));
        Use.column("no error", after, 6, MAX, 1, 5, 6);
    }

    /** One row: NULL in column 1 of either table, 4 as the result of window 0, none of window 1. */
    private static FrameQueries oneRow() {
        FrameQueries q = Use.withTable0(4, new Integer[][] {{1, null, 3}});
        Use.fill(q, 1, new Integer[][] {{4, null, 1}});
        q.join(0, 2);
        q.window(8, 3, 1);
        q.window(8, 4, 1);
        Use.runs("one row", q, 1);
        return q;
    }

    private static void cellColumns() {
        Check.sentence("12: Column c (0 .. 8)");
        FrameQueries q = oneRow();
        int[] want = {1, 0, 3, 4, 0, 1, 4, 0, 0};
        for (int c = 0; c <= 8; c++) {
            Check.due("cell(0, " + c + ")", q.cell(0, c), want[c]);
        }
    }

    private static void cellRows() {
        Check.sentence("12: row r of the latest run's result");
        int[] counts = {1, 2, 23, 24};
        for (int count : counts) {
            FrameQueries q = Edge.counting(8, count);
            q.order(1, true);
            Use.runs(count + " rows", q, count);
            Check.due("the first row", q.cell(0, 0), 0);
            Check.due("the last row", q.cell(count - 1, 0), count - 1);
            Check.due("the row behind it", q.cell(count, 0), 0);
            Check.no("the row behind it", q.isNull(count, 3));
        }
        FrameQueries q = Edge.over(6, 1, MIN, MAX, -1);
        Use.runs("extremes", q, 3);
        Use.column("extremes", q, 0, MIN, MAX, -1);
        Use.column("extremes", q, 6, MIN, MIN, MIN);
    }

    private static void cellThatIsNull() {
        Check.sentence("12: 0 when it is NULL");
        FrameQueries q = oneRow();
        int[] nulls = {1, 4, 7, 8};
        for (int c : nulls) {
            Check.due("cell(0, " + c + ")", q.cell(0, c), 0);
        }
    }

    private static void cellThatIsNot() {
        Check.sentence("12: 0 when [..] there is none");
        FrameQueries q = oneRow();
        for (int c : Edge.outside(0, 8)) {
            Check.due("cell(0, " + c + ")", q.cell(0, c), 0);
        }
        for (int r : Edge.outside(0, 0)) {
            for (int c = 0; c <= 8; c++) {
                Check.due("cell(" + r + ", " + c + ")", q.cell(r, c), 0);
            }
            Check.due("cell(" + r + ", 9)", q.cell(r, 9), 0);
            Check.due("cell(" + r + ", -1)", q.cell(r, -1), 0);
        }
        // a row's last columns must not be taken for the next row's first ones, nor the other way round
        FrameQueries two = Use.withTable0(4, new Integer[][] {{1, 2, 3}, {4, 5, 6}});
        Use.runs("two rows", two, 2);
        for (int c = 9; c < 24; c++) {
            Check.due("cell(0, " + c + ")", two.cell(0, c), 0);
            Check.due("cell(1, " + -c + ")", two.cell(1, -c), 0);
        }
    }

    private static void cellsOfLargeResults() {
        Check.sentence("12: row r of the latest run's result", "of sixty rows too");
        FrameQueries q = new FrameQueries(8);
        Use.fillSame(q, 0, 3, 1);
        for (int i = 0; i < 20; i++) {
            q.insert(1, 1, i, -i, 0);
        }
        q.join(0, 0);
        Use.runs("sixty rows", q, 60);
        for (int r = 0; r < 60; r++) {
            Check.due("cell(" + r + ", 4)", q.cell(r, 4), r % 20);
            Check.due("cell(" + r + ", 5)", q.cell(r, 5), -(r % 20));
            Check.yes("isNull(" + r + ", 8)", q.isNull(r, 8));
        }
        Check.due("cell(60, 0)", q.cell(60, 0), 0);
        Check.no("isNull(60, 8)", q.isNull(60, 8));
    }

    private static void isNullOfACell() {
        Check.sentence("13: Whether there is this column of this row of the latest run's result, and it is NULL");
        FrameQueries q = oneRow();
        boolean[] want = {false, true, false, false, true, false, false, true, true};
        for (int c = 0; c <= 8; c++) {
            Check.due("isNull(0, " + c + ")", q.isNull(0, c) ? 1 : 0, want[c] ? 1 : 0);
        }
        FrameQueries zero = Use.withTable0(4, new Integer[][] {{0, MIN, null}});
        Use.runs("0 is not NULL", zero, 1);
        Check.no("0 is not NULL", zero.isNull(0, 0));
        Check.no("the smallest int is not NULL", zero.isNull(0, 1));
        Check.yes("NULL is", zero.isNull(0, 2));
    }

    private static void isNullOfNoCell() {
        Check.sentence("13: Whether there is this column of this row", "if not, false");
        FrameQueries q = oneRow();
        for (int c : Edge.outside(0, 8)) {
            Check.no("isNull(0, " + c + ")", q.isNull(0, c));
        }
        for (int r : Edge.outside(0, 0)) {
            for (int c = -1; c <= 9; c++) {
                Check.no("isNull(" + r + ", " + c + ")", q.isNull(r, c));
            }
        }
        FrameQueries none = new FrameQueries(4);
        Check.no("before a run", none.isNull(0, 3));
        Use.runs("no rows", none, 0);
        Check.no("of no rows", none.isNull(0, 3));
        FrameQueries wrong = roomy();
        Use.runs("ROOM", wrong, ROOM);
        Check.no("after ROOM", wrong.isNull(0, 3));
    }

    private static void transfersOfNoRun() {
        Check.sentence("14: The transfers of the latest run; 0 when there was none");
        FrameQueries q = Edge.counting(4, 5);
        Check.due("before a run", q.transfers(), 0);
        Use.runs("five rows", q, 5);
        Check.due("five rows", q.transfers(), 8);
        q.clear(0);
        Check.due("still", q.transfers(), 8);
        Use.runs("no rows", q, 0);
        Check.due("no rows", q.transfers(), 0);
    }

    private static void heldOfNoRun() {
        Check.sentence("15: How many frames the latest run held; 0 when there was none");
        FrameQueries q = Edge.counting(4, 9);
        Check.due("before a run", q.held(), 0);
        Use.runs("nine rows", q, 9);
        Check.due("nine rows", q.held(), 3);
        q.clear(0);
        Check.due("still", q.held(), 3);
        Use.runs("no rows", q, 0);
        Check.due("no rows", q.held(), 0);
    }

    private static void sortsOfNoRun() {
        Check.sentence("16: 0 when there was none, or it ended with an error");
        FrameQueries q = roomy();
        Check.due("before a run", q.sorts(), 0);
        Use.runs("ROOM", q, ROOM);
        Check.due("ROOM after a sort", q.sorts(), 0);
        q.query();
        Use.runs("five rows", q, 5);
        Check.due("five rows", q.sorts(), 1);
        q.window(8, 0, 1);
        q.over(0, 2, 0, false);
        Use.runs("ROOM", q, ROOM);
        Check.due("ROOM after a result", q.sorts(), 0);
        FrameQueries sum = Edge.over(8, 1, MIN, -1);
        Use.runs("OVERFLOW", sum, OVERFLOW);
        Check.due("OVERFLOW after a sort", sum.sorts(), 0);
    }

    private static void sortsOfEmptyLists() {
        Check.sentence("16: (of empty lists, and by no keys, too)");
        FrameQueries q = new FrameQueries(4);
        Use.runs("empty", q, 0);
        Check.due("no order", q.sorts(), 1);
        q.order(0, false);
        Use.runs("empty", q, 0);
        Check.due("an order", q.sorts(), 1);
        for (int w = 0; w < 3; w++) {
            q.window(0, 0, 1);
            q.over(w, w, NONE, false);
            Use.runs("empty", q, 0);
            Check.due((w + 1) + " windows and an order", q.sorts(), w == 0 ? 1 : w + 2);
        }
    }

    private static void sortsByNoKeys() {
        Check.sentence("16: How many sorts the latest run made", "by no keys, too");
        FrameQueries q = Edge.counting(4, 3);
        Use.runs("by origin", q, 3);
        Check.due("by origin", q.sorts(), 1);
        q.window(0, 0, 1);
        Use.runs("a window without keys", q, 3);
        Check.due("a window without keys", q.sorts(), 1);
        q.order(0, false);
        Use.runs("and an order", q, 3);
        Check.due("and an order", q.sorts(), 2);
    }

    private static void mostSorts() {
        Check.sentence("16: How many sorts the latest run made", "one for each window and one for the order at most");
        FrameQueries q = Edge.counting(4, 3);
        for (int w = 0; w < 3; w++) {
            q.window(0, 0, 1);
            q.over(w, w, NONE, false);
        }
        q.order(6, false);
        Use.runs("four sorts", q, 3);
        Check.due("four sorts", q.sorts(), 4);
        Use.runs("not added up", q, 3);
        Check.due("not added up", q.sorts(), 4);
    }

    private static void countsOfTheLatestRun() {
        Check.sentence("14, 15, 16: the latest run");
        FrameQueries q = Edge.counting(8, 24);
        q.window(0, 0, 1);
        Use.runs("24 rows", q, 24);
        Use.counts("24 rows", q, 12 + 12 + 12, 8, 1);
        q.query();
        q.filter(0, 1, 0);
        Use.counts("not of the new query", q, 36, 8, 1);
        Use.runs("one row", q, 1);
        Use.counts("one row", q, 6 + 1 + 2, 2, 1);
        q.query();
        q.join(2, 2);
        Use.fillSame(q, 1, 3, 0);
        Use.runs("72 rows", q, ROOM);
        Use.counts("72 rows", q, 0, 0, 0);
    }
}
