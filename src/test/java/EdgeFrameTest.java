/** The edges of the terms for frames: their bounds, by ROWS and by RANGE, rows with NULL, and the farthest ints. */
public final class EdgeFrameTest {
    private static final int NONE = Edge.NONE;
    private static final int MIN = Edge.MIN;
    private static final int MAX = Edge.MAX;
    private static final int FIRST = 6;
    private static final int LAST = 7;
    private static final int COUNT = 9;

    public static void main(String[] args) {
        rowsThatThereAre();
        everyFrameByRows();
        lowestAndHighestRows();
        rowsWithNull();
        rangeFromLowToHigh();
        everyFrameByRange();
        rangeDown();
        rangeNeverWrapping();
        rangeOfDistances();
        rangeOfEqualValues();
        nullHasItsPeers();
        noOtherHasNull();
        nothingButNull();
        noBoundBelow();
        noBoundAbove();
        boundsOfNineAreBounds();
        lowAboveHighByRows();
        lowAboveHighByRange();
        lowAndHighTheSame();
        functionsWithoutFrames();
        rangeInPartitions();
        rangeStays();
        framesOfAFullList();
        Check.end();
    }

    /** FIRST, LAST and COUNT of column 1 by column 0, whose values they are; column 1 numbers the rows. */
    private static FrameQueries framed(boolean down, boolean range, int low, int high, Integer... values) {
        FrameQueries q = new FrameQueries(8);
        for (int i = 0; i < values.length; i++) {
            Use.fill(q, 0, new Integer[][] {{values[i], i, 0}});
        }
        int[] functions = {FIRST, LAST, COUNT};
        for (int w = 0; w < 3; w++) {
            q.window(functions[w], 1, 1);
            q.over(w, NONE, 0, down);
            Check.yes("frame(" + w + ", " + range + ", " + low + ", " + high + ")", q.frame(w, range, low, high));
        }
        Use.runs("frames from " + low + " to " + high, q, values.length);
        return q;
    }

    /** Frames of a list that is in order: of each row the first and the last row, {-1, -1} if it is empty. */
    private static void frames(boolean down, boolean range, int low, int high, Integer[] values, int[]... want) {
        FrameQueries q = framed(down, range, low, high, values);
        for (int i = 0; i < want.length; i++) {
            isFrame("row " + i + ", from " + low + " to " + high, q, i, want[i][0], want[i][1]);
        }
    }

    private static void isFrame(String what, FrameQueries q, int row, int first, int last) {
        boolean empty = first > last || first < 0;
        Check.due(what + ": COUNT", q.cell(row, 8), empty ? 0 : last - first + 1);
        Check.due(what + ": FIRST is NULL", q.isNull(row, 6) ? 1 : 0, empty ? 1 : 0);
        Check.due(what + ": FIRST", q.cell(row, 6), empty ? 0 : first);
        Check.due(what + ": LAST is NULL", q.isNull(row, 7) ? 1 : 0, empty ? 1 : 0);
        Check.due(what + ": LAST", q.cell(row, 7), empty ? 0 : last);
    }

    private static int[] none() {
        return new int[] {-1, -1};
    }

    private static int[] rows(int first, int last) {
        return new int[] {first, last};
    }

    private static void rowsThatThereAre() {
        Check.sentence("by ROWS: those from i + low to i + high that there are");
        Integer[] values = {10, 20, 30, 40};
        frames(false, false, -1, 1, values, rows(0, 1), rows(0, 2), rows(1, 3), rows(2, 3));
        frames(false, false, -9, -1, values, none(), rows(0, 0), rows(0, 1), rows(0, 2));
        frames(false, false, 1, 9, values, rows(1, 3), rows(2, 3), rows(3, 3), none());
        frames(false, false, -9, -3, values, none(), none(), none(), rows(0, 0));
        frames(false, false, 3, 9, values, rows(3, 3), none(), none(), none());
        frames(false, false, -9, -4, values, none(), none(), none(), none());
        frames(false, false, 4, 9, values, none(), none(), none(), none());
    }

    private static void everyFrameByRows() {
        Check.sentence("low is -9 .. 9, or -10 for no bound below; high is -9 .. 9, or 10 for no bound above", "by ROWS");
        Integer[] values = new Integer[24];
        for (int i = 0; i < 24; i++) {
            values[i] = i;
        }
        for (int low = -10; low <= 9; low++) {
            for (int high = -9; high <= 10; high++) {
                FrameQueries q = framed(false, false, low, high, values);
                for (int i = 0; i < 24; i++) {
                    int first = low == -10 ? 0 : Math.max(i + low, 0);
                    int last = high == 10 ? 23 : Math.min(i + high, 23);
                    isFrame("row " + i + ", from " + low + " to " + high, q, i, first, last);
                }
            }
        }
    }

    private static void lowestAndHighestRows() {
        Check.sentence("low is -9 .. 9, [..] high is -9 .. 9", "the farthest bounds by ROWS, in 24 rows");
        Integer[] values = new Integer[24];
        java.util.Arrays.fill(values, 1);
        FrameQueries q = framed(true, false, -9, 9, values);
        isFrame("row 0", q, 0, 0, 9);
        isFrame("row 9", q, 9, 0, 18);
        isFrame("row 10", q, 10, 1, 19);
        isFrame("row 14", q, 14, 5, 23);
        isFrame("row 23", q, 23, 14, 23);
    }

    private static void rowsWithNull() {
        Check.sentence("by ROWS: those from i + low to i + high", "rows with NULL in the order column like any other");
        Integer[] values = {null, null, MIN, 0};
        frames(false, false, -1, 1, values, rows(0, 1), rows(0, 2), rows(1, 3), rows(2, 3));
        frames(false, false, 2, 10, values, rows(2, 3), rows(3, 3), none(), none());
    }

    private static void rangeFromLowToHigh() {
        Check.sentence("by RANGE (only with an order column): those whose value there, less the row's own [..] is from low to high");
        Integer[] values = {0, 2, 3, 5, 9, 14};
        frames(false, true, -2, 2, values, rows(0, 1), rows(0, 2), rows(1, 3), rows(2, 3), rows(4, 4), rows(5, 5));
        frames(false, true, -3, 1, values, rows(0, 0), rows(0, 2), rows(0, 2), rows(1, 3), rows(4, 4), rows(5, 5));
        frames(false, true, 1, 4, values, rows(1, 2), rows(2, 3), rows(3, 3), rows(4, 4), none(), none());
        frames(false, true, 2, 3, values, rows(1, 2), rows(3, 3), rows(3, 3), none(), none(), none());
        frames(false, true, -9, -5, values, none(), none(), none(), rows(0, 0), rows(0, 2), rows(3, 4));
        frames(false, true, 9, 9, values, rows(4, 4), none(), none(), rows(5, 5), none(), none());
        frames(false, true, -9, -9, values, none(), none(), none(), none(), rows(0, 0), rows(3, 3));
    }

    /** A row with NULL has its peers where low is above high too: README.md says why. */
    private static void everyFrameByRange() {
        Check.sentence("low is -9 .. 9, or -10 for no bound below; high is -9 .. 9, or 10 for no bound above", "by RANGE");
        Integer[] up = {null, null, MIN, MIN + 9, MIN + 10, -10, -9, -1, 0, 0, 1, 9, 10, MAX - 10, MAX - 9, MAX};
        Integer[] down = new Integer[up.length];
        for (int i = 0; i < up.length; i++) {
            down[i] = up[up.length - 1 - i];
        }
        for (int low = -10; low <= 9; low++) {
            for (int high = -9; high <= 10; high++) {
                everyRow(false, low, high, up);
                everyRow(true, low, high, down);
            }
        }
    }

    private static void everyRow(boolean down, int low, int high, Integer[] values) {
        FrameQueries q = framed(down, true, low, high, values);
        for (int i = 0; i < values.length; i++) {
            int first = -1;
            int last = -2;
            for (int k = 0; k < values.length; k++) {
                if (isInRange(down, low, high, values[i], values[k])) {
                    first = first < 0 ? k : first;
                    last = k;
                }
            }
            isFrame("row " + i + ", from " + low + " to " + high + (down ? " down" : ""), q, i, first, last);
        }
    }

    private static boolean isInRange(boolean down, int low, int high, Integer own, Integer theirs) {
        if (own == null || theirs == null) {
            return own == null && theirs == null;
        }
        long distance = (down ? -1L : 1L) * ((long) theirs - (long) own);
        return (low == -10 || distance >= low) && (high == 10 || distance <= high);
    }

    private static void rangeDown() {
        Check.sentence("in the direction down: the row's own less theirs");
        Integer[] values = {14, 9, 5, 3, 2, 0};
        frames(true, true, -1, 2, values, rows(0, 0), rows(1, 1), rows(2, 3), rows(3, 4), rows(3, 5), rows(5, 5));
        frames(true, true, 1, 5, values, rows(1, 1), rows(2, 2), rows(3, 5), rows(4, 5), rows(5, 5), none());
        frames(true, true, -4, -1, values, none(), none(), rows(1, 1), rows(2, 2), rows(2, 3), rows(3, 4));
        frames(true, true, -10, -9, values, none(), none(), rows(0, 0), rows(0, 0), rows(0, 0), rows(0, 1));
        frames(true, true, 9, 10, values, rows(2, 5), rows(5, 5), none(), none(), none(), none());
    }

    private static void rangeNeverWrapping() {
        Check.sentence("never wrapping");
        Integer[] values = {MIN, MIN + 9, MAX - 9, MAX};
        frames(false, true, -9, 9, values, rows(0, 1), rows(0, 1), rows(2, 3), rows(2, 3));
        frames(false, true, -10, 9, values, rows(0, 1), rows(0, 1), rows(0, 3), rows(0, 3));
        frames(false, true, -9, 10, values, rows(0, 3), rows(0, 3), rows(2, 3), rows(2, 3));
        frames(false, true, 1, 10, values, rows(1, 3), rows(2, 3), rows(3, 3), none());
        frames(false, true, -10, -1, values, none(), rows(0, 0), rows(0, 1), rows(0, 2));
        // MAX - MIN would wrap to -1, MIN - MAX to 1
        Integer[] farthest = {MIN, MAX};
        frames(false, true, -1, -1, farthest, none(), none());
        frames(false, true, 1, 1, farthest, none(), none());
        frames(false, true, -10, 0, farthest, rows(0, 0), rows(0, 1));
        Integer[] farthestDown = {MAX, MIN};
        frames(true, true, -1, -1, farthestDown, none(), none());
        frames(true, true, 1, 1, farthestDown, none(), none());
        frames(true, true, -10, 0, farthestDown, rows(0, 0), rows(0, 1));
        frames(true, true, 0, 10, farthestDown, rows(0, 1), rows(1, 1));
        // 0 - MIN is no int either
        Integer[] half = {MIN, 0};
        frames(false, true, 0, 10, half, rows(0, 1), rows(1, 1));
        frames(false, true, -10, 0, half, rows(0, 0), rows(0, 1));
    }

    private static void rangeOfDistances() {
        Check.sentence("is from low to high", "the bounds belong to it, the next numbers do not");
        for (int bound = -9; bound <= 9; bound++) {
            FrameQueries at = Use.withTable0(8, new Integer[][] {{0, 0, 0}, {bound - 1, 1, 0}, {bound, 2, 0}, {bound + 1, 3, 0}});
            at.window(8, 1, 1);
            at.over(0, NONE, 0, false);
            at.frame(0, true, bound, bound);
            at.order(1, false);
            Use.runs("about " + bound, at, 4);
            // of the rows 1, 2 and 3 the second alone, and the row of 0 itself, which adds nothing
            Check.due("the row of 0 has the row of " + bound, at.cell(0, 6), 2);
        }
    }

    private static void rangeOfEqualValues() {
        Check.sentence("by RANGE (only with an order column): those whose value there, less the row's own [..] is from low to high", "peers all alike");
        Integer[] values = {5, 5, 6, 6, 6};
        frames(false, true, 0, 0, values, rows(0, 1), rows(0, 1), rows(2, 4), rows(2, 4), rows(2, 4));
        frames(false, true, 1, 1, values, rows(2, 4), rows(2, 4), none(), none(), none());
        frames(false, true, -1, -1, values, none(), none(), rows(0, 1), rows(0, 1), rows(0, 1));
        frames(false, true, -10, 0, values, rows(0, 1), rows(0, 1), rows(0, 4), rows(0, 4), rows(0, 4));
    }

    private static void nullHasItsPeers() {
        Check.sentence("a row with NULL there has all its peers");
        Integer[] up = {null, null, MIN, 0};
        Integer[] down = {0, MIN, null, null};
        int[][] bounds = {{0, 0}, {1, 1}, {-9, -9}, {9, 9}, {5, 10}, {-10, -5}, {-10, 10}, {-10, 0}, {0, 10}};
        for (int[] bound : bounds) {
            FrameQueries q = framed(false, true, bound[0], bound[1], up);
            isFrame("up, row 0 from " + bound[0] + " to " + bound[1], q, 0, 0, 1);
            isFrame("up, row 1 from " + bound[0] + " to " + bound[1], q, 1, 0, 1);
            q = framed(true, true, bound[0], bound[1], down);
            isFrame("down, row 2 from " + bound[0] + " to " + bound[1], q, 2, 2, 3);
            isFrame("down, row 3 from " + bound[0] + " to " + bound[1], q, 3, 2, 3);
        }
    }

    private static void noOtherHasNull() {
        Check.sentence("no other row has rows with NULL in its frame");
        Integer[] up = {null, null, MIN, 0};
        frames(false, true, -10, 10, up, rows(0, 1), rows(0, 1), rows(2, 3), rows(2, 3));
        frames(false, true, -10, 0, up, rows(0, 1), rows(0, 1), rows(2, 2), rows(2, 3));
        frames(false, true, -10, -1, up, rows(0, 1), rows(0, 1), none(), rows(2, 2));
        frames(false, true, -9, 9, up, rows(0, 1), rows(0, 1), rows(2, 2), rows(3, 3));
        Integer[] down = {0, MIN, null, null};
        frames(true, true, -10, 10, down, rows(0, 1), rows(0, 1), rows(2, 3), rows(2, 3));
        frames(true, true, 0, 10, down, rows(0, 1), rows(1, 1), rows(2, 3), rows(2, 3));
        frames(true, true, 1, 10, down, rows(1, 1), none(), rows(2, 3), rows(2, 3));
    }

    private static void nothingButNull() {
        Check.sentence("a row with NULL there has all its peers", "in a list of nothing else");
        Integer[] values = {null, null, null};
        frames(false, true, 3, 4, values, rows(0, 2), rows(0, 2), rows(0, 2));
        frames(true, true, -10, 10, values, rows(0, 2), rows(0, 2), rows(0, 2));
    }

    private static void noBoundBelow() {
        Check.sentence("-10 for no bound below");
        Integer[] values = {0, 9, 10, 11, 20, 21};
        frames(false, true, -10, 0, values, rows(0, 0), rows(0, 1), rows(0, 2), rows(0, 3), rows(0, 4), rows(0, 5));
        frames(false, true, -10, -9, values, none(), rows(0, 0), rows(0, 0), rows(0, 0), rows(0, 3), rows(0, 3));
    }

    private static void noBoundAbove() {
        Check.sentence("10 for no bound above");
        Integer[] values = {0, 9, 10, 11, 20, 21};
        frames(false, true, 0, 10, values, rows(0, 5), rows(1, 5), rows(2, 5), rows(3, 5), rows(4, 5), rows(5, 5));
        frames(false, true, 9, 10, values, rows(1, 5), rows(4, 5), rows(4, 5), rows(4, 5), none(), none());
    }

    private static void boundsOfNineAreBounds() {
        Check.sentence("low is -9 .. 9, [..] high is -9 .. 9", "-9 and 9 are bounds");
        Integer[] values = {0, 9, 10, 11, 20, 21};
        frames(false, true, -9, 0, values, rows(0, 0), rows(0, 1), rows(1, 2), rows(1, 3), rows(3, 4), rows(4, 5));
        frames(false, true, 0, 9, values, rows(0, 1), rows(1, 3), rows(2, 3), rows(3, 4), rows(4, 5), rows(5, 5));
    }

    private static void lowAboveHighByRows() {
        Check.sentence("9: where low is above high frames are empty", "by ROWS");
        Integer[] values = {null, 1, 1, 2};
        for (int low = -8; low <= 9; low++) {
            frames(false, false, low, low - 1, values, none(), none(), none(), none());
            frames(false, false, low, -9, values, none(), none(), none(), none());
        }
    }

    private static void lowAboveHighByRange() {
        Check.sentence("9: where low is above high frames are empty", "by RANGE");
        Integer[] values = {MIN, 1, 1, 2, MAX};
        Integer[] down = {MAX, 2, 1, 1, MIN};
        for (int low = -8; low <= 9; low++) {
            frames(false, true, low, low - 1, values, none(), none(), none(), none(), none());
            frames(false, true, 9, low - 1, values, none(), none(), none(), none(), none());
            frames(true, true, low, low - 1, down, none(), none(), none(), none(), none());
            frames(true, true, low, -9, down, none(), none(), none(), none(), none());
        }
    }

    private static void lowAndHighTheSame() {
        Check.sentence("9: from low to high", "one number, where they are the same");
        Integer[] values = {1, 2, 4};
        frames(false, false, 0, 0, values, rows(0, 0), rows(1, 1), rows(2, 2));
        frames(false, false, 1, 1, values, rows(1, 1), rows(2, 2), none());
        frames(false, true, 2, 2, values, none(), rows(2, 2), none());
        frames(false, true, -1, -1, values, none(), rows(0, 0), none());
    }

    private static void functionsWithoutFrames() {
        Check.sentence("the others look at the row's FRAME", "0 to 5 do not");
        Integer[][] want = {{1, 2, 3}, {1, 2, 2}, {1, 2, 2}, {1, 1, 2}, {null, 4, 6}, {6, 6, null}};
        for (int f = 0; f <= 5; f++) {
            FrameQueries q = Edge.over(f, f == 3 ? 2 : 1, 4, 6, 6);
            q.over(0, NONE, 0, false);
            Check.yes("an empty frame by ROWS", q.frame(0, false, 9, -9));
            Use.runs("an empty frame by ROWS", q, 3);
            Use.column("an empty frame by ROWS, function " + f, q, 6, want[f]);
            Check.yes("an empty frame by RANGE", q.frame(0, true, 1, 1));
            Use.runs("an empty frame by RANGE", q, 3);
            Use.column("an empty frame by RANGE, function " + f, q, 6, want[f]);
        }
    }

    private static void rangeInPartitions() {
        Check.sentence("by RANGE (only with an order column): those whose value there, less the row's own [..] is from low to high", "of each partition its own rows");
        FrameQueries q = Use.withTable0(8, new Integer[][] {
            {1, 5, 1}, {1, 6, 2}, {1, null, 4}, {2, 5, 8}, {2, null, 16}, {2, 6, 32}, {null, 5, 64}, {null, null, 128},
        });
        q.window(8, 2, 1);
        q.over(0, 0, 1, false);
        q.frame(0, true, -10, 10);
        q.window(8, 2, 1);
        q.over(1, 0, 1, true);
        q.frame(1, true, 1, 1);
        q.order(2, false);
        Use.runs("three partitions", q, 8);
        Use.column("no bounds", q, 6, 3, 3, 4, 40, 16, 40, 64, 128);
        Use.column("one less", q, 7, null, 1, 4, null, 16, 8, null, 128);
    }

    /** The last row of sixty: a frame that begins behind it is sought where no row is. */
    private static void framesOfAFullList() {
        Check.sentence("6 FIRST, 7 LAST: [..] NULL if it is empty", "behind the last row of a full list");
        FrameQueries q = new FrameQueries(8);
        Use.fillSame(q, 0, 6, 1);
        for (int i = 0; i < 10; i++) {
            q.insert(1, 1, i, i, 0);
        }
        q.join(0, 0);
        int[] functions = {FIRST, LAST, COUNT};
        for (int w = 0; w < 3; w++) {
            q.window(functions[w], 5, 1);
            q.over(w, 4, 5, false);
            q.frame(w, true, 1, 10);
        }
        Use.runs("by RANGE", q, 60);
        isEmptyAtBothEnds("by RANGE", q);
        for (int w = 0; w < 3; w++) {
            q.frame(w, false, 9, 10);
        }
        Use.runs("by ROWS", q, 60);
        isEmptyAtBothEnds("by ROWS", q);
    }

    private static void isEmptyAtBothEnds(String what, FrameQueries q) {
        for (int r = 0; r < 60; r += 59) {
            Check.yes(what + ": FIRST of row " + r, q.isNull(r, 6));
            Check.yes(what + ": LAST of row " + r, q.isNull(r, 7));
            Check.due(what + ": COUNT of row " + r, q.cell(r, 8), 0);
        }
    }

    /** over() does not change the frame, and frame() does not change the columns. */
    private static void rangeStays() {
        Check.sentence("9: Window w gets its frame: by RANGE or by ROWS");
        FrameQueries q = Use.withTable0(8, new Integer[][] {{1, 9, 1}, {2, 9, 2}, {4, 5, 4}});
        q.window(8, 2, 1);
        q.over(0, NONE, 0, false);
        q.frame(0, true, 1, 2);
        Use.runs("by column 0", q, 3);
        Use.column("by column 0", q, 6, 2, 4, null);
        q.over(0, NONE, 1, false);
        Use.runs("by column 1", q, 3);
        Use.column("by column 1", q, 2, 4, 1, 2);
        Use.column("by column 1", q, 6, null, null, null);
        q.frame(0, true, 4, 4);
        Use.runs("another bound", q, 3);
        Use.column("another bound", q, 6, 3, null, null);
        q.frame(0, false, 1, 1);
        Use.runs("by ROWS", q, 3);
        Use.column("by ROWS", q, 6, 1, 2, null);
    }
}
