/** The edges of ROOM and OVERFLOW: the last query that is taken, the first that is not, and which error comes first. */
public final class EdgeErrorTest {
    private static final int NONE = Edge.NONE;
    private static final int ROOM = Edge.ROOM;
    private static final int OVERFLOW = Edge.OVERFLOW;
    private static final int MIN = Edge.MIN;
    private static final int MAX = Edge.MAX;
    private static final int ROW_NUMBER = 0;
    private static final int SUM = 8;

    public static void main(String[] args) {
        largestPartition();
        tooLargePartition();
        tooLargeForEveryFunction();
        tooLargeAnywhere();
        tooLargeWithoutAPartitionColumn();
        sumsThatAreInts();
        sumsThatAreNoInts();
        sumsOfManyRows();
        sumsOfFramesAlone();
        sumsOfLaterRows();
        windowsInTheirOrder();
        windowsWithMoreKeys();
        laterWindows();
        partitionsInTheOrderOfTheList();
        roomBeforeRows();
        joinBeforeWindows();
        nothingOfAnErrorStays();
        Check.end();
    }

    /** Partitions of these sizes by column 0, which is 0, 1, 2 ..; column 1 is 1 in every row. */
    private static FrameQueries parted(int frames, int... sizes) {
        FrameQueries q = new FrameQueries(frames);
        for (int i = 0; i < sizes.length; i++) {
            for (int row = 0; row < sizes[i]; row++) {
                Check.yes("insert", q.insert(0, i, 1, 0, 0));
            }
        }
        return q;
    }

    private static void window(FrameQueries q, int f, int arg, int partition, int order) {
        int w = q.window(f, arg, 1);
        Check.yes("over", q.over(w, partition, order, false));
    }

    private static void largestPartition() {
        Check.sentence("A partition of more than 4 * (M - 2) rows: the query ends with ROOM", "not one of as many");
        for (int frames = 3; frames <= 8; frames++) {
            int most = 4 * (frames - 2);
            for (int rows = most - 1; rows <= most; rows++) {
                FrameQueries q = parted(frames, rows);
                window(q, ROW_NUMBER, 0, 0, NONE);
                window(q, SUM, 1, NONE, 0);
                Use.runs(rows + " rows in " + frames + " frames", q, rows);
                Check.due("the last row's number", q.cell(rows - 1, 6), rows);
                Check.due("the sum", q.cell(rows - 1, 7), rows);
            }
        }
    }

    private static void tooLargePartition() {
        Check.sentence("A partition of more than 4 * (M - 2) rows: the query ends with ROOM");
        for (int frames = 3; frames <= 7; frames++) {
            for (int rows = 4 * (frames - 2) + 1; rows <= 24; rows++) {
                FrameQueries q = parted(frames, rows);
                window(q, ROW_NUMBER, 0, 0, NONE);
                Use.runs(rows + " rows in " + frames + " frames", q, ROOM);
            }
        }
        FrameQueries q = Edge.joining(8, 24);
        window(q, ROW_NUMBER, 0, 0, NONE);
        Use.runs("24 rows in 8 frames", q, 24);
        FrameQueries more = Edge.joining(8, 27);
        window(more, ROW_NUMBER, 0, 0, NONE);
        Use.runs("27 rows in 8 frames", more, ROOM);
    }

    private static void tooLargeForEveryFunction() {
        Check.sentence("A partition of more than 4 * (M - 2) rows: the query ends with ROOM", "whatever the function");
        for (int f = 0; f <= 11; f++) {
            FrameQueries q = parted(3, 4);
            window(q, f, 0, 0, NONE);
            Use.runs("function " + f + ", 4 rows", q, 4);
            q.insert(0, 0, 0, 0, 0);
            Use.runs("function " + f + ", 5 rows", q, ROOM);
            q.frame(0, false, 9, -9);
            Use.runs("function " + f + ", 5 rows, empty frames", q, ROOM);
        }
    }

    private static void tooLargeAnywhere() {
        Check.sentence("A partition of more than 4 * (M - 2) rows", "the first, one in between, the last, that of NULL");
        int[][] sizes = {{5, 1, 1}, {1, 5, 1}, {1, 1, 5}, {4, 4, 5}, {5, 5, 5}};
        for (int[] size : sizes) {
            FrameQueries q = parted(3, size);
            window(q, ROW_NUMBER, 0, 0, NONE);
            Use.runs("partitions", q, ROOM);
        }
        FrameQueries full = parted(3, 4, 4, 4, 4, 4, 4);
        window(full, ROW_NUMBER, 0, 0, NONE);
        Use.runs("six full partitions", full, 24);
        FrameQueries nulls = parted(3, 4);
        for (int i = 0; i < 4; i++) {
            nulls.insert(0, 0, 0, 0, 1);
        }
        window(nulls, ROW_NUMBER, 0, 0, NONE);
        Use.runs("four rows with NULL", nulls, 8);
        nulls.insert(0, 0, 0, 0, 1);
        Use.runs("five rows with NULL", nulls, ROOM);
    }

    private static void tooLargeWithoutAPartitionColumn() {
        Check.sentence("A partition of more than 4 * (M - 2) rows", "all rows, without a column");
        FrameQueries q = Edge.counting(4, 8);
        window(q, ROW_NUMBER, 0, NONE, NONE);
        window(q, ROW_NUMBER, 0, NONE, 0);
        Use.runs("eight rows", q, 8);
        q.insert(0, 99, 0, 0, 0);
        Use.runs("nine rows", q, ROOM);
        q.filter(0, 0, 99);
        Use.runs("eight rows that are kept", q, 8);
        q.filter(0, 0, 0);
        Use.runs("no rows", q, 0);
    }

    private static int sumOf(Integer... values) {
        FrameQueries q = Edge.over(SUM, 1, values);
        return q.run();
    }

    private static void sumsThatAreInts() {
        Check.sentence("A sum that is no int: the query ends with OVERFLOW", "not the largest int, nor the smallest");
        Check.due("MAX", sumOf(MAX), 1);
        Check.due("MIN", sumOf(MIN), 1);
        Check.due("MAX - 1 + 1", sumOf(MAX - 1, 1), 2);
        Check.due("MIN + 1 - 1", sumOf(MIN + 1, -1), 2);
        Check.due("MAX + 1 - 1", sumOf(MAX, 1, -1), 3);
        Check.due("MIN - 1 + 1", sumOf(MIN, -1, 1), 3);
        Check.due("MIN + MAX", sumOf(MIN, MAX), 2);
        Check.due("MAX + NULL", sumOf(MAX, null), 2);
        Check.due("MAX + MAX + MIN + MIN", sumOf(MAX, MAX, MIN, MIN), 4);
    }

    private static void sumsThatAreNoInts() {
        Check.sentence("A sum that is no int: the query ends with OVERFLOW");
        Check.due("MAX + 1", sumOf(MAX, 1), OVERFLOW);
        Check.due("1 + MAX", sumOf(1, MAX), OVERFLOW);
        Check.due("MIN - 1", sumOf(MIN, -1), OVERFLOW);
        Check.due("-1 + MIN", sumOf(-1, MIN), OVERFLOW);
        Check.due("MAX + NULL + 1", sumOf(MAX, null, 1), OVERFLOW);
        Check.due("MAX + MAX", sumOf(MAX, MAX), OVERFLOW);
        // as an int that wraps these would be 0
        Check.due("MIN + MIN", sumOf(MIN, MIN), OVERFLOW);
        Check.due("MAX + MAX + 2", sumOf(MAX, MAX, 2), OVERFLOW);
    }

    private static void sumsOfManyRows() {
        Check.sentence("A sum that is no int", "the farthest that 24 rows have");
        Integer[] many = new Integer[24];
        java.util.Arrays.fill(many, MAX);
        Check.due("24 * MAX", sumOf(many), OVERFLOW);
        java.util.Arrays.fill(many, MIN);
        Check.due("24 * MIN", sumOf(many), OVERFLOW);
        for (int i = 0; i < 12; i++) {
            many[i] = MAX;
        }
        Check.due("12 * MAX + 12 * MIN", sumOf(many), 24);
    }

    private static void sumsOfFramesAlone() {
        Check.sentence("the others look at the row's FRAME [..] A sum that is no int: the query ends with OVERFLOW", "the sum of a frame, not of the partition");
        FrameQueries q = Edge.over(SUM, 1, MAX, 1, MIN, -1);
        Use.runs("all four rows", q, 4);
        Use.column("all four rows", q, 6, -1, -1, -1, -1);
        q.frame(0, false, 0, 0);
        Use.runs("each row alone", q, 4);
        q.frame(0, false, 0, 1);
        Use.runs("two rows each", q, OVERFLOW);
        q.frame(0, false, 2, 3);
        Use.runs("the last two rows", q, OVERFLOW);
        q.frame(0, false, 3, 3);
        Use.runs("the last row", q, 4);
        q.frame(0, false, 9, -9);
        Use.runs("none", q, 4);
        for (int f = 0; f <= 11; f++) {
            FrameQueries other = Edge.over(f, 1, MAX, MAX, MAX);
            Use.runs("function " + f, other, f == SUM ? OVERFLOW : 3);
        }
    }

    private static void sumsOfLaterRows() {
        Check.sentence("A sum that is no int", "of the first row, of the last, of the last partition's last");
        FrameQueries first = Edge.over(SUM, 1, MAX, 1, 0, 0);
        first.frame(0, false, 0, 1);
        Use.runs("the first row", first, OVERFLOW);
        FrameQueries last = Edge.over(SUM, 1, 0, 0, MAX, 1);
        last.frame(0, false, -1, 0);
        Use.runs("the last row", last, OVERFLOW);
        FrameQueries parted = Use.withTable0(4, new Integer[][] {{1, MAX, 0}, {2, MAX, 0}, {3, MAX, 0}, {3, 0, 0}});
        window(parted, SUM, 1, 0, NONE);
        Use.runs("MAX in each partition", parted, 4);
        parted.insert(0, 3, 1, 0, 0);
        Use.runs("1 more in the last", parted, OVERFLOW);
    }

    /** Five rows are more than three frames take in one partition; two of them have MAX in column 1. */
    private static FrameQueries bothErrors() {
        return Use.withTable0(3, new Integer[][] {{1, MAX, 1}, {1, MAX, 2}, {2, 0, 3}, {2, 0, 4}, {3, 0, 5}});
    }

    private static void windowsInTheirOrder() {
        Check.sentence("The first error that comes up ends the query: windows in their order", "of equal keys the lower number first");
        FrameQueries q = bothErrors();
        window(q, ROW_NUMBER, 0, NONE, 2);
        window(q, SUM, 1, 0, NONE);
        Use.runs("ROOM in window 0, OVERFLOW in window 1", q, ROOM);
        q.query();
        window(q, SUM, 1, 0, NONE);
        window(q, ROW_NUMBER, 0, NONE, 2);
        Use.runs("OVERFLOW in window 0, ROOM in window 1", q, OVERFLOW);
        q.query();
        window(q, ROW_NUMBER, 0, 2, NONE);
        window(q, SUM, 1, 0, NONE);
        window(q, ROW_NUMBER, 0, NONE, 2);
        Use.runs("OVERFLOW in window 1, ROOM in window 2", q, OVERFLOW);
        q.query();
        window(q, ROW_NUMBER, 0, 2, NONE);
        window(q, ROW_NUMBER, 0, NONE, 2);
        window(q, SUM, 1, 0, NONE);
        Use.runs("ROOM in window 1, OVERFLOW in window 2", q, ROOM);
    }

    private static void windowsWithMoreKeys() {
        Check.sentence("The first error that comes up ends the query: windows in their order", "those with more keys first");
        FrameQueries q = bothErrors();
        window(q, ROW_NUMBER, 0, NONE, NONE);
        window(q, SUM, 1, 0, NONE);
        Use.runs("no key: ROOM, one key: OVERFLOW", q, OVERFLOW);
        q.query();
        window(q, ROW_NUMBER, 0, NONE, 2);
        window(q, SUM, 1, 0, 2);
        Use.runs("one key: ROOM, two keys: OVERFLOW", q, OVERFLOW);
        q.query();
        window(q, SUM, 1, 0, NONE);
        window(q, ROW_NUMBER, 0, 3, 4);
        Use.runs("one key: OVERFLOW, two keys: ROOM", q, ROOM);
    }

    private static void laterWindows() {
        Check.sentence("The first error that comes up ends the query", "in the last window too");
        FrameQueries q = bothErrors();
        window(q, ROW_NUMBER, 0, 0, 2);
        window(q, ROW_NUMBER, 0, 0, NONE);
        Use.runs("two windows without an error", q, 5);
        window(q, ROW_NUMBER, 0, NONE, NONE);
        Use.runs("ROOM in the third", q, ROOM);
        Use.noResult("ROOM in the third", q);
        q.query();
        window(q, ROW_NUMBER, 0, 0, 2);
        window(q, ROW_NUMBER, 0, 0, NONE);
        window(q, SUM, 1, 0, NONE);
        Use.runs("OVERFLOW in the third", q, OVERFLOW);
        Use.noResult("OVERFLOW in the third", q);
    }

    private static void partitionsInTheOrderOfTheList() {
        Check.sentence("of each its partitions in the order of the list");
        FrameQueries q = parted(3, 2, 5);
        q.insert(0, 0, MAX, 0, 0);
        window(q, SUM, 1, 0, NONE);
        Use.runs("OVERFLOW in partition 0, ROOM in partition 1", q, OVERFLOW);
        q = parted(3, 5, 2);
        q.insert(0, 1, MAX, 0, 0);
        window(q, SUM, 1, 0, NONE);
        Use.runs("ROOM in partition 0, OVERFLOW in partition 1", q, ROOM);
        // the list's order is by value, not by insertion, and NULL comes first
        FrameQueries nulls = Use.withTable0(3, new Integer[][] {{7, MAX, 0}, {7, 1, 0}});
        window(nulls, SUM, 1, 0, NONE);
        for (int i = 0; i < 5; i++) {
            nulls.insert(0, 8, 0, 0, 0);
        }
        Use.runs("ROOM behind OVERFLOW", nulls, OVERFLOW);
        for (int i = 0; i < 5; i++) {
            nulls.insert(0, 0, 0, 0, 1);
        }
        Use.runs("ROOM in the partition of NULL", nulls, ROOM);
        FrameQueries small = Use.withTable0(3, new Integer[][] {{7, MAX, 0}, {7, 1, 0}});
        window(small, SUM, 1, 0, NONE);
        Use.fillSame(small, 0, 5, MIN + 1);
        Use.runs("ROOM in the partition of a small int", small, ROOM);
    }

    private static void roomBeforeRows() {
        Check.sentence("of each partition first ROOM, then its rows in order");
        FrameQueries q = Use.withTable0(3, new Integer[][] {{1, MAX, 0}, {1, MAX, 0}, {1, MAX, 0}, {1, MAX, 0}});
        window(q, SUM, 1, 0, NONE);
        Use.runs("four rows", q, OVERFLOW);
        q.insert(0, 1, 0, 0, 0);
        Use.runs("five rows", q, ROOM);
        q.frame(0, false, -9, 0);
        Use.runs("five rows", q, ROOM);
    }

    private static void joinBeforeWindows() {
        Check.sentence("The first error that comes up ends the query", "the join's before the windows'");
        FrameQueries q = new FrameQueries(8);
        for (int i = 0; i < 20; i++) {
            q.insert(0, 1, MAX, i, 0);
        }
        Use.fillSame(q, 1, 3, 1);
        q.join(0, 0);
        window(q, SUM, 1, 2, NONE);
        Use.runs("60 pairs, sums of three", q, OVERFLOW);
        q.insert(0, 1, MAX, 20, 0);
        Use.runs("63 pairs", q, ROOM);
        q.filter(2, 0, 20);
        Use.runs("60 pairs", q, OVERFLOW);
        q.frame(0, false, 0, 0);
        Use.runs("60 pairs, each a sum of its own", q, 60);
    }

    /** Every error leaves the object as it was but for the result: the next run is as a new object's. */
    private static void nothingOfAnErrorStays() {
        Check.sentence("11: ROOM or OVERFLOW when it ended so", "and the query stays, and the tables do");
        FrameQueries q = bothErrors();
        window(q, SUM, 1, 0, NONE);
        window(q, SUM, 1, NONE, 2);
        q.order(6, true);
        Use.runs("OVERFLOW", q, OVERFLOW);
        Use.runs("OVERFLOW again", q, OVERFLOW);
        Check.due("rows(0)", q.rows(0), 5);
        q.frame(0, false, 0, 0);
        Use.runs("ROOM now", q, ROOM);
        Check.due("rows(0)", q.rows(0), 5);
        q.filter(2, 2, 1);
        q.over(1, NONE, 2, true);
        Use.runs("four rows", q, 4);
        Use.column("four rows", q, 6, MAX, 0, 0, 0);
        Use.column("four rows", q, 7, MAX, MAX, MAX, MAX);
        Use.counts("four rows", q, 2 + 1 + 3 * 2 + 2 * 2, 3, 3);
    }
}
