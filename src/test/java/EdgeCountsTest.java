/** The edges of the terms: what each step transfers and holds, for lists that are empty, full and in between. */
public final class EdgeCountsTest {
    private static final int NONE = Edge.NONE;

    public static void main(String[] args) {
        blocks();
        emptyTable();
        emptyAfterTheFilter();
        emptyAfterTheJoin();
        filterTransfers();
        filterOfNull();
        runsOfMBlocks();
        sortHoldsFewer();
        passes();
        passesOfTables();
        everySort();
        windowTransfers();
        windowHolds();
        largestPartition();
        windowsOfSixtyRows();
        queryHoldsTheMost();
        transfersAreTheSum();
        Check.end();
    }

    /** Blocks of so many rows, by counting: each block takes four of them away. */
    private static int blocksOf(int rows) {
        int blocks = 0;
        for (int left = rows; left > 0; left -= 4) {
            blocks++;
        }
        return blocks;
    }

    private static void blocks() {
        Check.sentence("n rows are |n| = n / 4 blocks, rounded up");
        int[] want = {0, 1, 1, 1, 1, 2, 2, 2, 2, 3, 3, 3, 3, 4, 4, 4, 4, 5, 5, 5, 5, 6, 6, 6, 6};
        for (int rows = 0; rows <= 24; rows++) {
            FrameQueries q = Edge.counting(4, rows);
            q.filter(0, 3, 0);
            Use.runs("none of " + rows + " rows", q, 0);
            Check.due(rows + " rows are read in blocks", q.transfers(), want[rows]);
        }
    }

    private static void emptyTable() {
        Check.sentence("(for lists that are empty it transfers nothing and holds none)");
        for (int frames = 3; frames <= 8; frames++) {
            FrameQueries q = new FrameQueries(frames);
            Use.runs("nothing", q, 0);
            Use.counts("nothing", q, 0, 0, 1);
            q.filter(0, 4, 0);
            Use.runs("a filter", q, 0);
            Use.counts("a filter", q, 0, 0, 1);
            q.join(0, 0);
            Use.runs("a join", q, 0);
            Use.counts("a join", q, 0, 0, 1);
            for (int w = 0; w < 3; w++) {
                q.window(8, 0, 1);
                q.over(w, w, NONE, false);
            }
            Use.runs("windows", q, 0);
            Use.counts("windows", q, 0, 0, 3);
            q.order(8, true);
            Use.runs("an order", q, 0);
            Use.counts("an order", q, 0, 0, 4);
            Use.fillSame(q, 1, 24, 1);
            Use.runs("a full table 1", q, 0);
            Use.counts("a full table 1", q, 0, 0, 4);
        }
    }

    private static void emptyAfterTheFilter() {
        Check.sentence("(for lists that are empty it transfers nothing and holds none)", "after a filter that keeps none");
        FrameQueries q = Edge.counting(8, 24);
        q.filter(0, 3, 0);
        q.window(8, 0, 1);
        q.order(1, true);
        Use.runs("24 rows, none kept", q, 0);
        Use.counts("24 rows, none kept", q, 6, 2, 2);
        Use.fillCounting(q, 1, 24);
        q.join(0, 0);
        Use.runs("24 rows, none kept, a join", q, 0);
        Use.counts("24 rows, none kept, a join", q, 6, 2, 2);
    }

    private static void emptyAfterTheJoin() {
        Check.sentence("(for lists that are empty it transfers nothing and holds none)", "after a join without pairs");
        FrameQueries q = Edge.counting(8, 5);
        Use.fillSame(q, 1, 1, 99);
        q.join(0, 0);
        q.window(8, 0, 1);
        q.over(0, 0, 1, false);
        q.order(1, true);
        Use.runs("no pairs", q, 0);
        // the filter 2 + 2, the match 1 + 2, which holds 1 + 2
        Use.counts("no pairs", q, 7, 3, 2);
    }

    private static void filterTransfers() {
        Check.sentence("FILTER. [..] Transfers |n| + |k|, holds 2");
        for (int rows = 1; rows <= 24; rows++) {
            for (int kept = 0; kept <= rows; kept++) {
                FrameQueries q = Edge.counting(8, rows);
                q.filter(0, 0, kept);
                Use.runs(kept + " of " + rows, q, kept);
                // the sort of up to six blocks in eight frames makes one run
                int due = blocksOf(rows) + blocksOf(kept) + 2 * blocksOf(kept);
                Use.counts(kept + " of " + rows, q, due, Math.max(2, blocksOf(kept)), 1);
            }
        }
    }

    private static void filterOfNull() {
        Check.sentence("The filter compares a column with a number: less, equal, greater (for NULL none holds)");
        for (int op = 0; op <= 2; op++) {
            int[] numbers = {Edge.MIN, Edge.MIN + 1, -1, 0, 1, Edge.MAX};
            for (int x : numbers) {
                FrameQueries q = Use.withTable0(4, new Integer[][] {{null, 0, 0}, {null, 1, 1}});
                q.filter(0, op, x);
                Use.runs("op " + op + ", NULL and " + x, q, 0);
            }
        }
    }

    private static void tableSorted(int frames, int rows, int passes) {
        String what = rows + " rows in " + frames + " frames";
        FrameQueries q = Edge.counting(frames, rows);
        q.order(1, false);
        Use.runs(what, q, rows);
        int blocks = blocksOf(rows);
        Use.counts(what, q, 2 * blocks + 2 * blocks * (1 + passes), Math.max(2, Math.min(frames, blocks)), 1);
        Check.due(what + ": the first row", q.cell(0, 0), rows - 1);
        Check.due(what + ": the last row", q.cell(rows - 1, 0), 0);
    }

    private static void runsOfMBlocks() {
        Check.sentence("It makes RUNS of M blocks (the last one perhaps shorter)");
        for (int frames = 3; frames <= 5; frames++) {
            tableSorted(frames, 4 * frames - 1, 0);
            tableSorted(frames, 4 * frames, 0);
            tableSorted(frames, 4 * frames + 1, 1);
        }
        tableSorted(6, 24, 0);
        tableSorted(7, 24, 0);
        tableSorted(8, 24, 0);
    }

    private static void sortHoldsFewer() {
        Check.sentence("A SORT of n rows [..] holds M, or |n| if that is less");
        for (int frames = 3; frames <= 8; frames++) {
            for (int blocks = 1; blocks <= 6 && blocks <= frames; blocks++) {
                tableSorted(frames, 4 * blocks, 0);
                tableSorted(frames, 4 * blocks - 3, 0);
            }
        }
    }

    /** Table 0's rows for a join of so many: three of four rows in table 1 have its value 1. */
    private static int rowsToJoin(int rows) {
        return rows / 3 + rows % 3;
    }

    private static void joinSorted(int frames, int rows, int passes) {
        String what = rows + " joined rows in " + frames + " frames";
        FrameQueries q = Edge.joining(frames, rows);
        Use.runs(what, q, rows);
        int p = blocksOf(rowsToJoin(rows));
        int blocks = blocksOf(rows);
        int due = 2 * p + 1 + p + blocks + 2 * blocks * (1 + passes);
        Use.counts(what, q, due, Math.max(3, Math.min(frames, blocks)), 1);
    }

    private static void passes() {
        Check.sentence("as long as there is more than one run, every M - 1 of them (the last ones perhaps fewer) are merged into one");
        int[][] framesBlocksPasses = {
            {3, 3, 0}, {3, 4, 1}, {3, 6, 1}, {3, 7, 2}, {3, 9, 2}, {3, 10, 2}, {3, 12, 2}, {3, 13, 3}, {3, 15, 3},
            {4, 4, 0}, {4, 5, 1}, {4, 12, 1}, {4, 13, 2}, {4, 15, 2},
            {5, 5, 0}, {5, 6, 1}, {5, 15, 1},
            {6, 6, 0}, {6, 7, 1}, {6, 15, 1},
            {7, 7, 0}, {7, 8, 1}, {7, 15, 1},
            {8, 8, 0}, {8, 9, 1}, {8, 15, 1},
        };
        for (int[] edge : framesBlocksPasses) {
            joinSorted(edge[0], 4 * edge[1] - 3, edge[2]);
            joinSorted(edge[0], 4 * edge[1], edge[2]);
        }
    }

    private static void passesOfTables() {
        Check.sentence("in each such PASS transfers 2 * |n|");
        tableSorted(3, 13, 1);
        tableSorted(3, 24, 1);
        tableSorted(4, 17, 1);
        tableSorted(4, 24, 1);
        tableSorted(5, 21, 1);
        tableSorted(5, 24, 1);
    }

    /** Runs are merged on paper: so many in, so many out, until one is left. */
    private static void everySort() {
        Check.sentence("A SORT of n rows", "of every number of rows, in every number of frames");
        for (int frames = 3; frames <= 8; frames++) {
            for (int rows = 1; rows <= 60; rows++) {
                int runs = 0;
                for (int left = blocksOf(rows); left > 0; left -= frames) {
                    runs++;
                }
                int passes = 0;
                while (runs > 1) {
                    int merged = 0;
                    for (int left = runs; left > 0; left -= frames - 1) {
                        merged++;
                    }
                    runs = merged;
                    passes++;
                }
                joinSorted(frames, rows, passes);
            }
        }
    }

    private static void windowTransfers() {
        Check.sentence("To work a window out transfers 2 * |n| for the list of n rows");
        for (int windows = 1; windows <= 3; windows++) {
            for (int rows = 1; rows <= 24; rows++) {
                FrameQueries q = Edge.counting(8, rows);
                for (int w = 0; w < windows; w++) {
                    q.window(0, 0, 1);
                }
                Use.runs("one partition", q, rows);
                Check.due(windows + " windows, " + rows + " rows", q.transfers(), (4 + 2 * windows) * blocksOf(rows));
            }
        }
    }

    private static void windowHolds() {
        Check.sentence("holds 2 + the blocks of the largest partition (|its rows|)");
        for (int frames = 3; frames <= 8; frames++) {
            for (int rows = 1; rows <= 4 * (frames - 2); rows++) {
                FrameQueries q = Edge.counting(frames, rows);
                q.window(0, 0, 1);
                Use.runs("one partition", q, rows);
                Check.due(rows + " rows in " + frames + " frames", q.held(), 2 + blocksOf(rows));
            }
        }
    }

    private static void partitions(int held, int... sizes) {
        FrameQueries q = new FrameQueries(8);
        int rows = 0;
        for (int i = 0; i < sizes.length; i++) {
            Use.fillSame(q, 0, sizes[i], i);
            rows += sizes[i];
        }
        q.window(0, 0, 1);
        q.over(0, 0, NONE, false);
        Use.runs("partitions", q, rows);
        Check.due(sizes.length + " partitions, the first of " + sizes[0], q.held(), held);
        Check.due("transfers()", q.transfers(), 6 * blocksOf(rows));
    }

    private static void largestPartition() {
        Check.sentence("2 + the blocks of the largest partition", "the first, one in between or the last");
        partitions(5, 9, 1, 1);
        partitions(5, 1, 9, 1);
        partitions(5, 1, 1, 9);
        partitions(6, 16, 8);
        partitions(6, 8, 16);
        partitions(7, 20, 4);
        partitions(8, 21, 3);
        partitions(8, 3, 21);
        partitions(8, 24);
        // the sort holds five blocks, more than a partition and the two frames beside it
        partitions(5, 4, 4, 4, 4, 4);
        partitions(6, 4, 4, 4, 4, 4, 1);
    }

    private static void windowsOfSixtyRows() {
        Check.sentence("To work a window out transfers 2 * |n|", "for a full list of 60 rows");
        FrameQueries q = Edge.joining(7, 60);
        q.window(0, 0, 1);
        q.over(0, 4, NONE, false);
        Use.runs("one partition of 60", q, Edge.ROOM);
        q.clear(1);
        for (int i = 0; i < 3; i++) {
            q.insert(1, 1, i, 0, 0);
        }
        Use.runs("three partitions of 20", q, 60);
        // the filter 5 + 5, the match 1 + 5, the pairs 15, runs 30, a pass 30, the window 30
        Use.counts("three partitions of 20", q, 10 + 6 + 15 + 60 + 30, 7, 1);
        Check.due("the last row of a partition", q.cell(19, 6), 20);
        Check.due("the first row of the next", q.cell(20, 6), 1);
        Check.due("the last row of all", q.cell(59, 6), 20);
    }

    private static void queryHoldsTheMost() {
        Check.sentence("The query HOLDS the most that one of its steps held");
        FrameQueries filter = Edge.counting(8, 1);
        Use.runs("the filter's 2", filter, 1);
        Check.due("the filter's 2", filter.held(), 2);
        FrameQueries join = Edge.counting(8, 4);
        Use.fillCounting(join, 1, 24);
        join.join(0, 0);
        Use.runs("the join's 6 + 2", join, 4);
        Check.due("the join's 6 + 2", join.held(), 8);
        FrameQueries sort = Edge.counting(8, 24);
        Use.runs("the sort's 6", sort, 24);
        Check.due("the sort's 6", sort.held(), 6);
        FrameQueries window = Edge.counting(8, 17);
        window.window(0, 0, 1);
        window.window(0, 0, 1);
        window.over(1, 0, NONE, false);
        Use.runs("the window's 2 + 5", window, 17);
        Check.due("the window's 2 + 5", window.held(), 7);
        FrameQueries order = Edge.counting(5, 24);
        order.window(0, 0, 1);
        order.over(0, 0, NONE, false);
        order.order(2, true);
        Use.runs("a sort's 5", order, 24);
        Check.due("a sort's 5", order.held(), 5);
    }

    private static void transfersAreTheSum() {
        Check.sentence("its transfers are the sum");
        FrameQueries q = Edge.counting(3, 24);
        Use.fillCounting(q, 1, 4);
        q.filter(0, 0, 17);
        q.join(2, 2);
        Use.runs("68 pairs", q, Edge.ROOM);
        q.filter(0, 0, 15);
        for (int w = 0; w < 3; w++) {
            q.window(9, 0, 1);
        }
        q.over(0, 0, NONE, false);
        q.over(1, 1, 4, true);
        q.over(2, 1, NONE, false);
        q.order(6, true);
        Use.runs("60 pairs", q, 60);
        // the filter 6 + 4, the match 1 + 4, the pairs 15; a sort of 15 blocks takes runs and three
        // passes: by 1 and 4, by 0, by 1 again since that is no longer the first key, and by 6
        int sort = 30 * 4;
        int windows = 3 * 30;
        Use.counts("60 pairs", q, 10 + 5 + 15 + 4 * sort + windows, 3, 4);
    }
}
