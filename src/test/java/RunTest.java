/** Promises 11 (run), 12 (cell), 13 (isNull) and 4 (query): results and the errors that end a query. */
public final class RunTest {
    private static final int NONE = FrameQueries.NONE;
    private static final int ROOM = FrameQueries.ROOM;
    private static final int OVERFLOW = FrameQueries.OVERFLOW;
    private static final int MIN = Integer.MIN_VALUE;
    private static final int MAX = Integer.MAX_VALUE;

    public static void main(String[] args) {
        resultStays();
        queryStays();
        cellsThatAreNot();
        nullCells();
        errorTakesTheResultAway();
        partitionsThatAreTooLarge();
        sumsThatAreNoInts();
        firstErrorOfPartitions();
        firstErrorOfWindows();
        joinErrorComesFirst();
        Check.end();
    }

    private static FrameQueries sample() {
        return Use.withTable0(4, new Integer[][] {{3, 1, 10}, {1, null, 20}, {2, 3, 30}});
    }

    private static void isSample(String what, FrameQueries q) {
        Use.column(what, q, 0, 1, 2, 3);
        Use.column(what, q, 1, null, 3, 1);
        Use.column(what, q, 6, 20, 50, 60);
        Use.counts(what, q, 6, 3, 1);
    }

    private static void resultStays() {
        FrameQueries q = sample();
        q.window(8, 2, 1);
        q.over(0, NONE, 0, false);
        q.frame(0, false, -10, 0);
        Use.runs("sample", q, 3);
        isSample("sample", q);
        q.insert(0, 0, 0, 0, 0);
        isSample("after insert", q);
        q.clear(0);
        isSample("after clear", q);
        q.insert(0, 9, 9, 9, 0);
        isSample("after clear and insert", q);
        q.query();
        q.filter(0, 3, 0);
        q.join(0, 0);
        q.window(0, 0, 1);
        q.over(0, 0, NONE, true);
        q.frame(0, false, 0, 0);
        q.order(0, true);
        isSample("after another query", q);
        Use.runs("another query", q, 0);
        Use.column("another query", q, 0);
        q.query();
        Use.runs("the empty query", q, 1);
        Use.column("the empty query", q, 2, 9);
    }

    private static void queryStays() {
        FrameQueries q = sample();
        q.filter(0, 0, 3);
        q.window(8, 2, 1);
        q.order(0, true);
        for (int again = 0; again < 3; again++) {
            Use.runs("run again", q, 2);
            Use.column("run again", q, 0, 2, 1);
            Use.column("run again", q, 6, 50, 50);
            Use.counts("run again", q, 8, 3, 2);
        }
        q.insert(0, -5, 0, 1, 0);
        Use.runs("run with another row", q, 3);
        Use.column("run with another row", q, 0, 2, 1, -5);
        Use.column("run with another row", q, 6, 51, 51, 51);
    }

    private static void cellsThatAreNot() {
        FrameQueries q = Use.withTable0(4, new Integer[][] {{1, 2, 3}, {4, 5, null}});
        Use.runs("two rows", q, 2);
        int[][] outside = {
            {-1, 0}, {2, 0}, {2, 8}, {3, 3}, {24, 0}, {60, 0}, {MIN, 0}, {MAX, 0},
            {0, -1}, {0, 9}, {0, 10}, {1, -1}, {1, MIN}, {1, MAX}, {-1, 9}, {-1, -1}, {2, 9},
        };
        for (int[] cell : outside) {
            Check.due("cell(" + cell[0] + ", " + cell[1] + ")", q.cell(cell[0], cell[1]), 0);
            Check.no("isNull(" + cell[0] + ", " + cell[1] + ")", q.isNull(cell[0], cell[1]));
        }
    }

    private static void nullCells() {
        FrameQueries q = Use.withTable0(4, new Integer[][] {{1, 0, null}});
        Use.runs("a row", q, 1);
        for (int c = 0; c < 9; c++) {
            Check.due("isNull(0, " + c + ")", q.isNull(0, c) ? 1 : 0, c >= 2 ? 1 : 0);
            Check.due("cell(0, " + c + ")", q.cell(0, c), c == 0 ? 1 : 0);
        }
    }

    private static void errorTakesTheResultAway() {
        FrameQueries q = new FrameQueries(3);
        Use.fillCounting(q, 0, 5);
        Use.runs("five rows", q, 5);
        Use.counts("five rows", q, 8, 2, 1);
        q.window(0, 0, 1);
        Use.runs("one partition of five rows", q, ROOM);
        Use.noResult("ROOM", q);
        q.query();
        Use.runs("five rows", q, 5);
        Use.column("five rows", q, 0, 0, 1, 2, 3, 4);
        q.window(8, 0, 1);
        q.over(0, 0, NONE, false);
        q.insert(0, 4, 0, 0, 0);
        Use.runs("sums", q, 6);
        q.insert(0, MAX, 0, 0, 0);
        q.insert(0, MAX, 0, 0, 0);
        Use.runs("a sum that is no int", q, OVERFLOW);
        Use.noResult("OVERFLOW", q);
        q.filter(0, 0, 9);
        Use.runs("sums", q, 6);
        Use.column("sums", q, 6, 0, 1, 2, 3, 8, 8);
    }

    private static void partitionsThatAreTooLarge() {
        for (int frames = 3; frames <= 7; frames++) {
            int most = 4 * (frames - 2);
            for (int f = 0; f < 12; f++) {
                FrameQueries q = new FrameQueries(frames);
                Use.fillSame(q, 0, 2, -1);
                Use.fillSame(q, 0, most, 5);
                q.window(f, 0, 1);
                q.over(0, 0, NONE, false);
                Use.runs("a partition of " + most, q, most + 2);
                q.insert(0, 5, 0, 0, 0);
                Use.runs("a partition of " + (most + 1), q, ROOM);
                q.over(0, NONE, 0, false);
                Use.runs("one partition", q, ROOM);
                q.over(0, 1, 2, false);
                q.filter(0, 1, -1);
                Use.runs("a partition of 2", q, 2);
            }
        }
    }

    private static int sumOf(Integer... values) {
        FrameQueries q = new FrameQueries(8);
        for (Integer value : values) {
            q.insert(0, value, 0, 0, 0);
        }
        q.window(8, 0, 1);
        int end = q.run();
        return end < 0 ? end : q.cell(0, 6);
    }

    private static void sumsThatAreNoInts() {
        Check.due("MAX", sumOf(MAX), MAX);
        Check.due("MIN", sumOf(MIN), MIN);
        Check.due("MAX + 1", sumOf(MAX, 1), OVERFLOW);
        Check.due("MIN - 1", sumOf(MIN, -1), OVERFLOW);
        Check.due("MAX + 1 - 1", sumOf(MAX, 1, -1), MAX);
        Check.due("MIN - 1 + 1", sumOf(MIN, -1, 1), MIN);
        Check.due("MAX + MIN", sumOf(MAX, MIN), -1);
        Check.due("MIN + MIN", sumOf(MIN, MIN), OVERFLOW);
        Check.due("MAX + MAX + 2", sumOf(MAX, MAX, 2), OVERFLOW);
        Integer[] many = new Integer[24];
        java.util.Arrays.fill(many, MIN);
        Check.due("24 * MIN", sumOf(many), OVERFLOW);
        java.util.Arrays.fill(many, MAX);
        Check.due("24 * MAX", sumOf(many), OVERFLOW);
        for (int f = 0; f < 12; f++) {
            if (f != 8) {
                FrameQueries q = Use.withTable0(4, new Integer[][] {{MAX, 0, 0}, {MAX, 0, 0}});
                q.window(f, 0, 1);
                Use.runs("no sum", q, 2);
            }
        }
        FrameQueries q = Use.withTable0(4, new Integer[][] {{MAX, 0, 0}, {MAX, 0, 0}});
        q.window(8, 0, 1);
        q.frame(0, false, 0, 0);
        Use.runs("the frame's sum alone", q, 2);
    }

    private static void firstErrorOfPartitions() {
        FrameQueries q = new FrameQueries(3);
        Use.fill(q, 0, new Integer[][] {{1, MAX, 0}, {1, MAX, 0}});
        Use.fillSame(q, 0, 5, 2);
        q.window(8, 1, 1);
        q.over(0, 0, NONE, false);
        Use.runs("OVERFLOW in the first partition, ROOM in the second", q, OVERFLOW);
        Use.fillSame(q, 0, 5, 0);
        Use.runs("ROOM in a partition before", q, ROOM);
        q.clear(0);
        for (int i = 0; i < 5; i++) {
            q.insert(0, 1, MAX, 0, 0);
        }
        Use.runs("both in one partition", q, ROOM);
        q.clear(0);
        Use.fill(q, 0, new Integer[][] {{2, MAX, 0}, {2, MAX, 0}});
        Use.fillSame(q, 0, 5, 1);
        q.over(0, NONE, NONE, false);
        Use.runs("one partition", q, ROOM);
        q.over(0, 0, 1, true);
        Use.runs("ROOM in the first partition, OVERFLOW in the second", q, ROOM);
    }

    private static void firstErrorOfWindows() {
        FrameQueries q = new FrameQueries(3);
        Use.fill(q, 0, new Integer[][] {{1, MAX, 1}, {1, MAX, 2}, {2, 0, 3}, {3, 0, 4}, {4, 0, 5}});
        q.window(0, 0, 1);
        q.window(8, 1, 1);
        q.over(1, 0, NONE, false);
        Use.runs("the window with a key comes first", q, OVERFLOW);
        q.over(0, NONE, 2, false);
        Use.runs("among equal ones the lower number", q, ROOM);
        q.over(1, 0, 2, true);
        Use.runs("two keys come before one", q, OVERFLOW);
        q.frame(1, true, 0, 0);
        Use.runs("the other's error", q, ROOM);
        q.over(0, 2, NONE, false);
        Use.runs("no error", q, 5);
    }

    private static void joinErrorComesFirst() {
        FrameQueries q = new FrameQueries(8);
        for (int i = 0; i < 8; i++) {
            q.insert(0, i < 2 ? 1 : 2, MAX, i, 0);
        }
        Use.fillSame(q, 1, 8, 2);
        Use.fillSame(q, 1, 2, 1);
        q.join(0, 0);
        q.window(8, 1, 1);
        q.over(0, 0, NONE, false);
        Use.runs("48 + 4 pairs", q, OVERFLOW);
        Use.fillSame(q, 1, 2, 2);
        Use.runs("60 + 4 pairs", q, ROOM);
    }
}
