/** Promises 14 (transfers), 15 (held) and 16 (sorts): what the steps of a run count. */
public final class CountsTest {
    private static final int NONE = FrameQueries.NONE;

    public static void main(String[] args) {
        filterStep();
        sortStep();
        longSorts();
        windowStep();
        stepsTogether();
        latestRun();
        Check.end();
    }

    private static void filterStep() {
        FrameQueries q = new FrameQueries(4);
        for (int rows = 1; rows <= 24; rows++) {
            Use.fill(q, 0, new Integer[][] {{rows, 0, 0}});
            q.filter(0, 3, 0);
            Use.runs("none of " + rows, q, 0);
            Use.counts("none of " + rows, q, (rows + 3) / 4, 2, 1);
            q.filter(0, 1, 1);
            Use.runs("one of " + rows, q, 1);
            Use.counts("one of " + rows, q, (rows + 3) / 4 + 1 + 2, 2, 1);
        }
    }

    private static void sorted(int frames, int rows, int transfers, int held) {
        FrameQueries q = new FrameQueries(frames);
        Use.fillCounting(q, 0, rows);
        q.order(1, false);
        String what = rows + " rows in " + frames + " frames";
        Use.runs(what, q, rows);
        Use.counts(what, q, transfers, held, 1);
        Check.due(what + ": the first row", q.cell(0, 0), rows - 1);
        Check.due(what + ": the last row", q.cell(rows - 1, 0), 0);
    }

    /** The filter takes 2 * |n|, the sort 2 * |n| for the runs and for each pass. */
    private static void sortStep() {
        sorted(3, 1, 4, 2);
        sorted(3, 4, 4, 2);
        sorted(3, 5, 8, 2);
        sorted(3, 12, 12, 3);
        sorted(3, 13, 24, 3);
        sorted(3, 24, 36, 3);
        sorted(4, 16, 16, 4);
        sorted(4, 17, 30, 4);
        sorted(5, 20, 20, 5);
        sorted(5, 21, 36, 5);
        sorted(6, 24, 24, 6);
        sorted(8, 24, 24, 6);
        sorted(8, 16, 16, 4);
    }

    private static void joined(int frames, int passes) {
        FrameQueries q = new FrameQueries(frames);
        Use.fillSame(q, 0, 15, 1);
        Use.fillSame(q, 1, 4, 1);
        q.join(0, 0);
        String what = "60 rows in " + frames + " frames";
        Use.runs(what, q, 60);
        // the filter 4 + 4, the match 1 + 4, the pairs 15
        Use.counts(what, q, 8 + 5 + 15 + 30 * (1 + passes), frames, 1);
    }

    /** 15 blocks are 5, 4, 3, 3, 3, 2 runs; with 3 frames 5 runs become 3, 2 and 1. */
    private static void longSorts() {
        joined(3, 3);
        joined(4, 2);
        joined(5, 1);
        joined(6, 1);
        joined(7, 1);
        joined(8, 1);
    }

    private static void windowStep() {
        FrameQueries q = new FrameQueries(8);
        Use.fillSame(q, 0, 5, 2);
        Use.fillSame(q, 0, 3, 1);
        q.window(0, 0, 1);
        q.over(0, 0, NONE, false);
        Use.runs("partitions of 3 and 5", q, 8);
        Use.counts("partitions of 3 and 5", q, 4 + 4 + 4, 4, 1);
        q.over(0, NONE, 0, false);
        Use.fillSame(q, 0, 1, 3);
        Use.runs("one partition of 9", q, 9);
        Use.counts("one partition of 9", q, 6 + 6 + 6, 5, 1);
        q.over(0, 0, NONE, false);
        q.filter(0, 2, 2);
        Use.runs("one row", q, 1);
        Use.counts("one row", q, 3 + 1 + 2 + 2, 3, 1);
        q.filter(0, 2, 3);
        Use.runs("no row", q, 0);
        Use.counts("no row", q, 3, 2, 1);
        q.clear(0);
        Use.fillCounting(q, 0, 24);
        q.query();
        q.window(8, 2, 1);
        q.window(0, 2, 1);
        q.window(9, 2, 1);
        Use.runs("three windows over 24 rows", q, 24);
        Use.counts("three windows over 24 rows", q, 12 + 12 + 3 * 12, 8, 1);
    }

    private static void stepsTogether() {
        FrameQueries q = new FrameQueries(3);
        Use.fillCounting(q, 0, 10);
        Use.fillCounting(q, 1, 4);
        q.filter(0, 2, 1);
        q.join(0, 0);
        q.window(0, 0, 1);
        q.over(0, 0, 1, true);
        q.window(0, 0, 1);
        q.over(1, 1, NONE, false);
        q.order(7, true);
        Use.runs("all steps", q, 2);
        // filter 3 + 2, match 1 + 2, pairs 1, sort 2, window 2, sort 2, window 2, sort 2
        Use.counts("all steps", q, 5 + 3 + 1 + 4 + 4 + 2, 3, 3);
    }

    private static void latestRun() {
        FrameQueries q = new FrameQueries(8);
        Use.counts("before a run", q, 0, 0, 0);
        Use.fillCounting(q, 0, 24);
        Use.counts("before a run", q, 0, 0, 0);
        Use.runs("24 rows", q, 24);
        Use.counts("24 rows", q, 24, 6, 1);
        q.filter(0, 1, 0);
        Use.counts("24 rows", q, 24, 6, 1);
        Use.runs("one row", q, 1);
        Use.counts("one row, not those before", q, 6 + 1 + 2, 2, 1);
        q.clear(0);
        Use.runs("no row", q, 0);
        Use.counts("no row", q, 0, 0, 1);
    }
}
