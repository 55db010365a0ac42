/** The edges of the terms for windows: the order they are worked out in, when the list is sorted, and the functions. */
public final class EdgeWindowTest {
    private static final int NONE = Edge.NONE;
    private static final int MIN = Edge.MIN;
    private static final int MAX = Edge.MAX;

    public static void main(String[] args) {
        columnsOfWindows();
        nullIsLess();
        nullIsEqual();
        extremesInOrder();
        partitionIsAllRows();
        moreKeysFirst();
        lowerNumbersFirst();
        beforeTheFirstSort();
        orderedForAWindow();
        otherDirections();
        withoutKeys();
        orderByTheFirstKey();
        withoutAnOrder();
        rowNumbers();
        ranks();
        denseRanks();
        peersWithoutOrder();
        tilesOfEverySize();
        tilesWithTooFewRows();
        lags();
        leads();
        neighboursInAPartition();
        firstAndLast();
        nullValuesDoNotCount();
        noValues();
        largestSums();
        extremesFound();
        oneRow();
        Check.end();
    }

    private static void columnsOfWindows() {
        Check.sentence("6 .. 8 the results of its windows 0 .. 2", "NULL in the columns of windows that there are not");
        for (int windows = 0; windows <= 3; windows++) {
            FrameQueries q = Edge.counting(4, 2);
            q.window(0, 0, 1);
            q.window(0, 0, 1);
            q.window(0, 0, 1);
            Use.runs("three windows", q, 2);
            q.query();
            for (int w = 0; w < windows; w++) {
                q.window(9, 0, 1);
            }
            Use.runs(windows + " windows", q, 2);
            for (int w = 0; w < 3; w++) {
                Integer count = w < windows ? 2 : null;
                Use.column(windows + " windows", q, 6 + w, count, count);
            }
        }
    }

    private static void nullIsLess() {
        Check.sentence("NULL is less than every int [..] where values are ordered");
        FrameQueries q = Use.withTable0(4, new Integer[][] {{MIN, 0, 0}, {null, 0, 0}, {MAX, 0, 0}, {-1, 0, 0}, {null, 1, 0}, {0, 0, 0}});
        q.order(0, false);
        Use.runs("up", q, 6);
        Use.column("up", q, 0, null, null, MIN, -1, 0, MAX);
        q.order(0, true);
        Use.runs("down", q, 6);
        Use.column("down", q, 0, MAX, 0, -1, MIN, null, null);
        Use.column("equal ones by origin", q, 1, 0, 0, 0, 0, 0, 1);
        q.window(0, 0, 1);
        q.over(0, 0, NONE, false);
        q.order(0, false);
        Use.runs("partitions", q, 6);
        Use.column("partitions", q, 0, null, null, MIN, -1, 0, MAX);
        q.over(0, NONE, 0, true);
        q.order(0, true);
        Use.runs("a window's order", q, 6);
        Use.column("a window's order", q, 6, 1, 2, 3, 4, 5, 6);
    }

    private static void nullIsEqual() {
        Check.sentence("NULL is [..] equal to NULL, where values are ordered or parted");
        FrameQueries q = Use.withTable0(4, new Integer[][] {{null, 3, 0}, {MIN, 2, 0}, {null, 1, 0}, {0, 0, 0}});
        q.window(9, 1, 1);
        q.over(0, 0, NONE, false);
        q.window(1, 0, 1);
        q.over(1, NONE, 0, false);
        q.window(2, 0, 1);
        q.over(2, NONE, 0, false);
        Use.runs("NULLs", q, 4);
        Use.column("one partition", q, 6, 2, 2, 1, 1);
        Use.column("peers by RANK", q, 7, 1, 1, 3, 4);
        Use.column("peers by DENSE RANK", q, 8, 1, 1, 2, 3);
        Use.column("by origin", q, 1, 3, 1, 2, 0);
    }

    private static void extremesInOrder() {
        Check.sentence("A SORT of n rows is by the keys, in their directions", "the smallest int and the largest");
        FrameQueries q = Use.withTable0(4, new Integer[][] {{MAX, 0, 0}, {MIN, 0, 0}, {1, 0, 0}, {MAX - 1, 0, 0}, {-1, 0, 0}, {MIN + 1, 0, 0}});
        q.order(0, false);
        Use.runs("up", q, 6);
        Use.column("up", q, 0, MIN, MIN + 1, -1, 1, MAX - 1, MAX);
        q.order(0, true);
        Use.runs("down", q, 6);
        Use.column("down", q, 0, MAX, MAX - 1, 1, -1, MIN + 1, MIN);
    }

    private static void partitionIsAllRows() {
        Check.sentence("PARTITION is all rows that have the same value in its partition column (all rows, without one)");
        FrameQueries q = Use.withTable0(8, new Integer[][] {{MIN, 0, 0}, {MAX, 0, 0}, {MIN, 0, 0}, {0, 0, 0}, {MAX, 0, 0}, {MAX, 0, 0}});
        q.window(9, 0, 1);
        q.over(0, 0, NONE, false);
        q.window(9, 0, 1);
        q.window(9, 0, 1);
        q.over(2, 3, NONE, false);
        q.order(0, false);
        Use.runs("partitions", q, 6);
        Use.column("by column 0", q, 6, 2, 2, 1, 3, 3, 3);
        Use.column("without a column", q, 7, 6, 6, 6, 6, 6, 6);
        Use.column("NULL in all rows", q, 8, 6, 6, 6, 6, 6, 6);
    }

    /** The rows have 0, 1, 2 .. in column 2, so that it tells in which order they are. */
    private static FrameQueries shuffled() {
        return Use.withTable0(5, new Integer[][] {{1, 2, 0}, {2, 1, 1}, {1, 1, 2}, {2, 2, 3}, {3, 1, 4}});
    }

    private static void moreKeysFirst() {
        Check.sentence("worked out in this order: those with more keys first");
        FrameQueries q = shuffled();
        for (int w = 0; w < 3; w++) {
            q.window(0, 0, 1);
        }
        q.over(1, NONE, 1, true);
        q.over(2, 0, 1, false);
        Use.runs("none, one and two keys", q, 5);
        Use.column("sorted last by column 1 down", q, 2, 0, 3, 1, 2, 4);
        Use.column("window 2, by columns 0 and 1", q, 8, 2, 2, 1, 1, 1);
        Use.column("window 1", q, 7, 1, 2, 3, 4, 5);
        Use.column("window 0, in the order of window 1", q, 6, 1, 2, 3, 4, 5);
        Check.due("sorts()", q.sorts(), 2);
    }

    private static void lowerNumbersFirst() {
        Check.sentence("among equal ones those with lower numbers first");
        FrameQueries q = shuffled();
        for (int w = 0; w < 3; w++) {
            q.window(0, 0, 1);
        }
        q.over(0, 0, NONE, false);
        q.over(1, 1, NONE, false);
        q.over(2, NONE, 2, true);
        Use.runs("one key each", q, 5);
        Use.column("the last one's order stays", q, 2, 4, 3, 2, 1, 0);
        q.over(2, 0, 1, true);
        q.over(1, 1, 0, true);
        q.over(0, 2, 0, true);
        Use.runs("two keys each", q, 5);
        Use.column("the last one's order stays", q, 2, 0, 2, 3, 1, 4);
        Check.due("sorts()", q.sorts(), 3);
    }

    private static void beforeTheFirstSort() {
        Check.sentence("Before the first sort the list is ordered for no window");
        FrameQueries q = Edge.counting(4, 3);
        q.window(0, 0, 1);
        Use.runs("no keys", q, 3);
        Check.due("no keys: sorts()", q.sorts(), 1);
        q.over(0, NONE, 0, false);
        Use.runs("rows that are in order", q, 3);
        Check.due("rows that are in order: sorts()", q.sorts(), 1);
        q.clear(0);
        Use.runs("no rows", q, 0);
        Check.due("no rows: sorts()", q.sorts(), 1);
        Use.runs("a run after that", q, 0);
        Check.due("a run after that: sorts()", q.sorts(), 1);
    }

    private static int sorts(int... partitionOrderDown) {
        FrameQueries q = shuffled();
        for (int i = 0; i < partitionOrderDown.length; i += 3) {
            int w = q.window(0, 0, 1);
            Check.yes("over", q.over(w, partitionOrderDown[i], partitionOrderDown[i + 1], partitionOrderDown[i + 2] == 1));
        }
        Use.runs("windows", q, 5);
        return q.sorts();
    }

    private static void orderedForAWindow() {
        Check.sentence("ordered for a window if the window's keys are the first ones of those");
        Check.due("all of them", sorts(0, 1, 0, 0, 1, 0, 0, 1, 0), 1);
        Check.due("the first one", sorts(0, 1, 0, 0, NONE, 0), 1);
        Check.due("the first one as order", sorts(0, 1, 0, NONE, 0, 0), 1);
        Check.due("the second one", sorts(0, 1, 0, 1, NONE, 0), 2);
        Check.due("the second one as order", sorts(0, 1, 0, NONE, 1, 0), 2);
        Check.due("the first one with another", sorts(0, 1, 0, 0, 2, 0), 2);
        Check.due("in the other order", sorts(0, 1, 0, 1, 0, 0), 2);
        Check.due("one key alone and another", sorts(0, NONE, 0, 1, NONE, 0), 2);
        Check.due("the first key is lost with the next sort", sorts(0, 1, 0, 2, 1, 0, 0, NONE, 0), 3);
        Check.due("one column as both keys", sorts(0, 0, 0, 0, NONE, 0, NONE, 0, 0), 1);
    }

    private static void otherDirections() {
        Check.sentence("the directions the same", "a partition column has the direction up");
        Check.due("order up and down", sorts(0, 1, 0, 0, 1, 1), 2);
        Check.due("order down twice", sorts(0, 1, 1, 0, 1, 1), 1);
        Check.due("partition up, order up", sorts(0, NONE, 0, NONE, 0, 0), 1);
        Check.due("partition up, order down", sorts(0, NONE, 0, NONE, 0, 1), 2);
        Check.due("order down, partition up", sorts(NONE, 0, 1, 0, NONE, 0), 2);
        Check.due("down does not matter without an order column", sorts(0, NONE, 1, 0, NONE, 0), 1);
        Check.due("down is not the partition's", sorts(0, 1, 1, 0, NONE, 0), 1);
        Check.due("down is not the partition's", sorts(0, 1, 1, NONE, 0, 1), 2);
        Check.due("one column up, then down", sorts(0, 0, 1, NONE, 0, 1), 2);
    }

    private static void withoutKeys() {
        Check.sentence("a window without keys needs no more than any sort");
        Check.due("three without keys", sorts(NONE, NONE, 0, NONE, NONE, 1, NONE, NONE, 0), 1);
        Check.due("beside two keys", sorts(NONE, NONE, 0, 0, 1, 1), 1);
        Check.due("beside one key", sorts(2, NONE, 0, NONE, NONE, 1), 1);
        FrameQueries q = shuffled();
        q.window(0, 0, 1);
        q.window(0, 0, 1);
        q.over(1, NONE, 2, true);
        Use.runs("in the order of the other", q, 5);
        Use.column("in the order of the other", q, 2, 4, 3, 2, 1, 0);
        Use.column("in the order of the other", q, 6, 1, 2, 3, 4, 5);
    }

    private static void orderByTheFirstKey() {
        Check.sentence("the list is sorted by its column, in its direction, unless it is ordered by keys the first of which is this one in this direction");
        int[][] overOrderAndSorts = {
            // partition, order column, down; the order's column and down; sorts
            {0, 1, 0, 0, 0, 1}, {0, 1, 1, 0, 0, 1}, {0, 1, 0, 0, 1, 2}, {0, 1, 0, 1, 0, 2}, {0, 1, 1, 1, 1, 2},
            {NONE, 1, 0, 1, 0, 1}, {NONE, 1, 1, 1, 1, 1}, {NONE, 1, 1, 1, 0, 2}, {NONE, 1, 0, 1, 1, 2},
            {1, NONE, 0, 1, 0, 1}, {1, NONE, 1, 1, 1, 2}, {NONE, NONE, 0, 0, 0, 2}, {0, 0, 1, 0, 0, 1}, {0, 0, 1, 0, 1, 2},
            {0, 1, 0, 6, 0, 2}, {0, 1, 0, 8, 0, 2},
        };
        for (int[] edge : overOrderAndSorts) {
            FrameQueries q = shuffled();
            q.window(0, 0, 1);
            q.over(0, edge[0], edge[1], edge[2] == 1);
            q.order(edge[3], edge[4] == 1);
            Use.runs("window and order", q, 5);
            Check.due("over " + edge[0] + ", " + edge[1] + ", order by " + edge[3], q.sorts(), edge[5]);
        }
        FrameQueries q = shuffled();
        q.window(0, 0, 1);
        q.over(0, 0, 1, true);
        q.order(0, false);
        Use.runs("not sorted again", q, 5);
        Use.column("not sorted again: column 1 is down", q, 2, 0, 2, 3, 1, 4);
    }

    private static void withoutAnOrder() {
        Check.sentence("Without an order: if nothing was sorted, it is sorted by no keys, so by origin alone");
        FrameQueries q = shuffled();
        Use.runs("nothing was sorted", q, 5);
        Use.column("nothing was sorted", q, 2, 0, 1, 2, 3, 4);
        Use.counts("nothing was sorted", q, 4 + 4, 2, 1);
        q.window(0, 0, 1);
        q.over(0, 0, NONE, false);
        Use.runs("a window's sort", q, 5);
        Use.column("a window's sort", q, 2, 0, 2, 1, 3, 4);
        Use.counts("a window's sort", q, 4 + 4 + 4, 3, 1);
    }

    private static void rowNumbers() {
        Check.sentence("0 ROW NUMBER i + 1");
        FrameQueries q = Edge.counting(8, 24);
        q.window(0, 0, 9);
        q.over(0, NONE, 1, false);
        Use.runs("24 rows", q, 24);
        for (int i = 0; i < 24; i++) {
            Check.due("row " + i, q.cell(i, 6), i + 1);
            Check.due("row " + i, q.cell(i, 0), 23 - i);
        }
    }

    /** A function by a column of table 0, up, that has these values; they are in order already. */
    private static void byColumn(int f, Integer[] values, Integer... want) {
        FrameQueries q = Edge.over(f, 1, values);
        q.over(0, NONE, 0, false);
        Use.runs("function " + f, q, want.length);
        Use.column("function " + f, q, 6, want);
    }

    private static void ranks() {
        Check.sentence("1 RANK 1 + the number of rows before its first peer");
        byColumn(1, new Integer[] {5}, 1);
        byColumn(1, new Integer[] {5, 5, 5}, 1, 1, 1);
        byColumn(1, new Integer[] {1, 2, 3}, 1, 2, 3);
        byColumn(1, new Integer[] {1, 1, 2, 2, 3}, 1, 1, 3, 3, 5);
        byColumn(1, new Integer[] {1, 2, 2, 2}, 1, 2, 2, 2);
        byColumn(1, new Integer[] {null, null, MIN, MIN, MAX}, 1, 1, 3, 3, 5);
    }

    private static void denseRanks() {
        Check.sentence("2 DENSE RANK 1 + the number of different values of the order column before that");
        byColumn(2, new Integer[] {5}, 1);
        byColumn(2, new Integer[] {5, 5, 5}, 1, 1, 1);
        byColumn(2, new Integer[] {1, 2, 3}, 1, 2, 3);
        byColumn(2, new Integer[] {1, 1, 2, 2, 3}, 1, 1, 2, 2, 3);
        byColumn(2, new Integer[] {1, 2, 2, 2}, 1, 2, 2, 2);
        byColumn(2, new Integer[] {null, null, MIN, MIN, MAX}, 1, 1, 2, 2, 3);
    }

    private static void peersWithoutOrder() {
        Check.sentence("PEERS are rows of a partition with the same value in the order column (all, without one)");
        FrameQueries q = shuffled();
        q.window(1, 0, 1);
        q.window(2, 0, 1);
        q.over(1, 0, NONE, true);
        q.window(1, 0, 1);
        q.over(2, 0, 1, false);
        Use.runs("peers", q, 5);
        Use.column("all rows", q, 6, 1, 1, 1, 1, 1);
        Use.column("all of a partition", q, 7, 1, 1, 1, 1, 1);
        Use.column("of each partition its own", q, 8, 1, 2, 1, 2, 1);
    }

    /** The tiles are dealt out one by one: each gets c / n rows, the first c mod n one more. */
    private static void tilesOfEverySize() {
        Check.sentence("3 TILE: with n tiles the first c mod n of them have c / n + 1 rows, the others c / n (rounded down)");
        for (int tiles = 1; tiles <= 9; tiles++) {
            for (int rows = 1; rows <= 24; rows++) {
                FrameQueries q = Edge.counting(8, rows);
                q.window(3, 0, tiles);
                Use.runs("tiles", q, rows);
                int row = 0;
                for (int tile = 1; tile <= tiles; tile++) {
                    int size = rows / tiles + (tile <= rows % tiles ? 1 : 0);
                    for (int i = 0; i < size; i++) {
                        Check.due("row " + row + " of " + rows + " in " + tiles + " tiles", q.cell(row, 6), tile);
                        row++;
                    }
                }
            }
        }
    }

    private static void tilesWithTooFewRows() {
        Check.sentence("3 TILE: [..] the number of the row's tile from 1 on", "with fewer rows than tiles, as many, and one more");
        Integer[] three = {7, 8, 9};
        Integer[] four = {6, 7, 8, 9};
        int[] tiles = {1, 2, 3, 4, 9};
        Integer[][] ofThree = {{1, 1, 1}, {1, 1, 2}, {1, 2, 3}, {1, 2, 3}, {1, 2, 3}};
        Integer[][] ofFour = {{1, 1, 1, 1}, {1, 1, 2, 2}, {1, 1, 2, 3}, {1, 2, 3, 4}, {1, 2, 3, 4}};
        for (int i = 0; i < tiles.length; i++) {
            FrameQueries q = Edge.over(3, tiles[i], three);
            Use.runs("three rows", q, 3);
            Use.column("three rows in " + tiles[i] + " tiles", q, 6, ofThree[i]);
            q = Edge.over(3, tiles[i], four);
            Use.runs("four rows", q, 4);
            Use.column("four rows in " + tiles[i] + " tiles", q, 6, ofFour[i]);
        }
    }

    private static void lags() {
        Check.sentence("4 LAG, [..] the value of the argument column in the row n before it, [..] NULL if there is none");
        for (int n = 1; n <= 9; n++) {
            FrameQueries q = Edge.counting(8, 11);
            q.window(4, 1, n);
            Use.runs("n = " + n, q, 11);
            for (int i = 0; i < 11; i++) {
                Check.due("row " + i + ", n = " + n, q.isNull(i, 6) ? 1 : 0, i < n ? 1 : 0);
                Check.due("row " + i + ", n = " + n, q.cell(i, 6), i < n ? 0 : n - i);
            }
        }
        FrameQueries q = Edge.over(4, 1, MIN, null, MAX);
        Use.runs("NULL before it", q, 3);
        Use.column("NULL before it", q, 6, null, MIN, null);
    }

    private static void leads() {
        Check.sentence("5 LEAD: the value of the argument column in the row [..] n behind it, NULL if there is none");
        for (int n = 1; n <= 9; n++) {
            FrameQueries q = Edge.counting(8, 11);
            q.window(5, 0, n);
            Use.runs("n = " + n, q, 11);
            for (int i = 0; i < 11; i++) {
                Check.due("row " + i + ", n = " + n, q.isNull(i, 6) ? 1 : 0, i + n > 10 ? 1 : 0);
                Check.due("row " + i + ", n = " + n, q.cell(i, 6), i + n > 10 ? 0 : i + n);
            }
        }
        FrameQueries q = Edge.over(5, 1, MIN, null, MAX);
        Use.runs("NULL behind it", q, 3);
        Use.column("NULL behind it", q, 6, null, MAX, null);
    }

    private static void neighboursInAPartition() {
        Check.sentence("For row i (from 0 on) of a partition of c rows", "no other partition's rows are looked at");
        FrameQueries q = Use.withTable0(5, new Integer[][] {{1, 0, 10}, {1, 0, 11}, {2, 0, 20}, {3, 0, 30}, {3, 0, 31}});
        int[] functions = {4, 5, 6, 7, 8, 0, 3};
        Integer[][] want = {
            {null, 10, null, null, 30}, {11, null, null, 31, null}, {10, 10, 20, 30, 30},
            {11, 11, 20, 31, 31}, {21, 21, 20, 61, 61}, {1, 2, 1, 1, 2}, {1, 2, 1, 1, 2},
        };
        for (int i = 0; i < functions.length; i++) {
            q.query();
            q.window(functions[i], 2, functions[i] == 3 ? 2 : 1);
            q.over(0, 0, NONE, false);
            Use.runs("three partitions", q, 5);
            Use.column("function " + functions[i], q, 6, want[i]);
        }
    }

    private static void firstAndLast() {
        Check.sentence("6 FIRST, 7 LAST: the value of the argument column in the first, the last row of the frame, NULL if it is empty");
        FrameQueries q = Edge.over(6, 1, 5, 6, 7);
        q.window(7, 0, 1);
        q.frame(0, false, 1, 2);
        q.frame(1, false, -2, -1);
        Use.runs("frames", q, 3);
        Use.column("FIRST, the last frame is empty", q, 6, 6, 7, null);
        Use.column("LAST, the first frame is empty", q, 7, null, 5, 6);
        FrameQueries nulls = Edge.over(6, 1, null, 6, null);
        nulls.window(7, 0, 1);
        Use.runs("NULL is a value of theirs", nulls, 3);
        Use.column("FIRST", nulls, 6, null, null, null);
        Use.column("LAST", nulls, 7, null, null, null);
    }

    private static void overAll(int f, Integer want, Integer... values) {
        FrameQueries q = Edge.over(f, 1, values);
        Use.runs("function " + f, q, values.length);
        Integer[] all = new Integer[values.length];
        java.util.Arrays.fill(all, want);
        Use.column("function " + f, q, 6, all);
    }

    private static void nullValuesDoNotCount() {
        Check.sentence("8 SUM, 10 LEAST, 11 GREATEST of the values that are not NULL, [..] 9 COUNT of them");
        overAll(8, 7, null, 3, null, 4);
        overAll(8, 0, 0, null);
        overAll(9, 2, null, 3, null, 4);
        overAll(9, 3, 0, 0, 0);
        overAll(10, 3, null, 3, null, 4);
        overAll(10, MAX, null, MAX);
        overAll(11, 4, 4, 3, null);
        overAll(11, MIN, MIN, null);
        overAll(11, -1, -1, null, -2);
    }

    private static void noValues() {
        Check.sentence("8 SUM, 10 LEAST, 11 GREATEST of the values that are not NULL, NULL if there are none", "COUNT is 0 then");
        int[] functions = {8, 10, 11};
        for (int f : functions) {
            overAll(f, null, null, null);
            FrameQueries q = Edge.over(f, 1, 1, 2);
            q.frame(0, false, 5, 5);
            Use.runs("empty frames", q, 2);
            Use.column("empty frames, function " + f, q, 6, null, null);
        }
        overAll(9, 0, null, null);
        FrameQueries q = Edge.over(9, 1, 1, 2);
        q.frame(0, false, 5, 5);
        Use.runs("empty frames", q, 2);
        Use.column("empty frames", q, 6, 0, 0);
    }

    private static void largestSums() {
        Check.sentence("8 SUM", "the largest int and the smallest are sums");
        overAll(8, MAX, MAX);
        overAll(8, MIN, MIN);
        overAll(8, MAX, MAX - 1, 1);
        overAll(8, MIN, MIN + 1, -1);
        overAll(8, -1, MIN, MAX);
        overAll(8, MAX, MAX, MAX, MIN, 1, 0);
        overAll(8, MIN, MIN, MIN, MAX, 1, 0, null);
    }

    private static void extremesFound() {
        Check.sentence("10 LEAST, 11 GREATEST", "of the largest int and the smallest");
        overAll(10, MIN, MAX, MIN, 0);
        overAll(11, MAX, MIN, MAX, 0);
        overAll(10, MIN, MIN, null, MIN + 1);
        overAll(11, MAX, MAX, null, MAX - 1);
        overAll(10, MAX - 1, MAX, MAX - 1);
        overAll(11, MIN + 1, MIN, MIN + 1);
    }

    private static void oneRow() {
        Check.sentence("For row i (from 0 on) of a partition of c rows", "of one row");
        Integer[] want = {1, 1, 1, 1, null, null, 5, 5, 5, 1, 5, 5};
        for (int f = 0; f <= 11; f++) {
            for (int n = 1; n <= 9; n++) {
                FrameQueries q = Edge.over(f, n, 5);
                Use.runs("one row", q, 1);
                Use.column("one row, function " + f, q, 6, want[f]);
            }
        }
    }
}
