/** Promise 6 (join): which rows pair, how the lists are matched, and what that costs. */
public final class JoinTest {
    private static final int MIN = Integer.MIN_VALUE;
    private static final int MAX = Integer.MAX_VALUE;

    public static void main(String[] args) {
        pairs();
        eachPairOfColumns();
        refusesAndTakesThePlace();
        atMostSixtyRows();
        emptyLists();
        fitsInMemory();
        partsToTheLastLevel();
        partsByValue();
        Check.end();
    }

    private static void pairs() {
        FrameQueries q = Use.withTable0(8, new Integer[][] {
            {5, 0, 0}, {null, 1, 0}, {7, 2, 0}, {5, 3, 0}, {MIN, 4, 0}, {0, 5, 0},
        });
        Use.fill(q, 1, new Integer[][] {
            {7, 10, 1}, {5, 11, null}, {null, 12, 3}, {5, null, 4}, {8, 14, 5}, {MIN, 15, 6}, {MAX, 16, 7},
        });
        Check.yes("join(0, 0)", q.join(0, 0));
        Use.runs("join", q, 6);
        // by origin: the row of table 0, then that of table 1
        Use.column("join", q, 0, 5, 5, 7, 5, 5, MIN);
        Use.column("join", q, 1, 0, 0, 2, 3, 3, 4);
        Use.column("join", q, 3, 5, 5, 7, 5, 5, MIN);
        Use.column("join", q, 4, 11, null, 10, 11, null, 15);
        Use.column("join", q, 5, null, 4, 1, null, 4, 6);
        for (int c = 6; c < 9; c++) {
            Use.column("join", q, c, null, null, null, null, null, null);
        }
        q.filter(1, 2, 2);
        Use.runs("join of the rows that the filter keeps", q, 3);
        Use.column("join of the rows that the filter keeps", q, 1, 3, 3, 4);
        q.query();
        Use.runs("query() takes the join away", q, 6);
        Use.column("query() takes the join away", q, 3, null, null, null, null, null, null);
    }

    private static void eachPairOfColumns() {
        FrameQueries q = Use.withTable0(8, new Integer[][] {{1, 2, 3}});
        Use.fill(q, 1, new Integer[][] {{1, 2, 3}, {2, 3, 1}, {3, 1, 2}});
        for (int x = 0; x < 3; x++) {
            for (int y = 0; y < 3; y++) {
                String what = "join(" + x + ", " + y + ")";
                Check.yes(what, q.join(x, y));
                Use.runs(what, q, 1);
                Use.column(what, q, 3 + y, x + 1);
            }
        }
    }

    private static void refusesAndTakesThePlace() {
        FrameQueries q = Use.withTable0(4, new Integer[][] {{1, 2, 2}});
        Use.fill(q, 1, new Integer[][] {{1, 9, 2}});
        int[][] wrong = {{-1, 0}, {3, 0}, {0, -1}, {0, 3}, {MIN, 1}, {1, MAX}};
        for (int[] w : wrong) {
            Check.no("join(" + w[0] + ", " + w[1] + ")", q.join(w[0], w[1]));
        }
        Use.runs("no join", q, 1);
        Use.column("no join", q, 3, (Integer) null);
        q.join(0, 0);
        for (int[] w : wrong) {
            Check.no("join(" + w[0] + ", " + w[1] + ")", q.join(w[0], w[1]));
        }
        Use.runs("the join before stays", q, 1);
        Use.column("the join before stays", q, 3, 1);
        q.join(0, 1);
        Use.runs("the second join alone", q, 0);
    }

    private static void atMostSixtyRows() {
        FrameQueries q = new FrameQueries(8);
        Use.fillSame(q, 0, 6, 1);
        Use.fillSame(q, 1, 10, 1);
        q.join(0, 0);
        Use.runs("60 pairs", q, 60);
        // the filter 2 + 2, the match 3 + 2, the pairs 15, the sort 30 and one pass 30
        Use.counts("60 pairs", q, 84, 8, 1);
        Use.fillSame(q, 0, 1, 2);
        Use.fillSame(q, 1, 1, 2);
        Use.runs("61 pairs", q, FrameQueries.ROOM);
        Use.noResult("61 pairs", q);
        q.filter(0, 1, 1);
        Use.runs("60 of them", q, 60);
        q.clear(0);
        q.clear(1);
        Use.fillSame(q, 0, 24, 3);
        Use.fillSame(q, 1, 24, 3);
        q.query();
        q.join(2, 2);
        Use.runs("576 pairs", q, FrameQueries.ROOM);
    }

    private static void emptyLists() {
        FrameQueries q = new FrameQueries(4);
        q.join(0, 0);
        Use.runs("both empty", q, 0);
        Use.counts("both empty", q, 0, 0, 1);
        Use.fillCounting(q, 1, 5);
        Use.runs("table 0 empty", q, 0);
        Use.counts("table 0 empty", q, 0, 0, 1);
        Use.fillCounting(q, 0, 5);
        q.filter(0, 0, 0);
        Use.runs("no row kept", q, 0);
        Use.counts("no row kept", q, 2, 2, 1);
        q.clear(1);
        q.query();
        q.join(0, 0);
        Use.runs("table 1 empty", q, 0);
        Use.counts("table 1 empty", q, 4, 2, 1);
        // rows that do not pair are matched all the same: 4 and 2 + 1 blocks
        Use.fill(q, 1, new Integer[][] {{null, 0, 0}});
        Use.runs("nothing but NULL in table 1", q, 0);
        Use.counts("nothing but NULL in table 1", q, 7, 3, 1);
    }

    private static void fitsInMemory() {
        for (int frames = 3; frames <= 8; frames++) {
            String what = frames + " frames";
            FrameQueries q = new FrameQueries(frames);
            int rows = 4 * (frames - 2);
            Use.fillCounting(q, 0, 2);
            Use.fillCounting(q, 1, rows);
            q.join(0, 0);
            Use.runs(what, q, 2);
            // the filter 2, the match |q| + 1, the pairs 1, the sort 2
            Use.counts(what, q, 6 + frames - 2, frames, 1);
        }
        FrameQueries q = new FrameQueries(8);
        Use.fillCounting(q, 0, 24);
        Use.fillCounting(q, 1, 5);
        q.join(0, 0);
        Use.runs("a long list and a short one", q, 5);
        // the filter 12, the match 2 + 6, the pairs 2, the sort 4
        Use.counts("a long list and a short one", q, 26, 4, 1);
    }

    private static void partsToTheLastLevel() {
        FrameQueries q = new FrameQueries(3);
        Use.fillSame(q, 0, 5, 7);
        Use.fillSame(q, 1, 9, 7);
        q.join(0, 0);
        Use.runs("one value, 3 frames", q, 45);
        // the filter 4, levels 0 and 1 each 5 + 5, level 2 3 + 2 * 3, the pairs 12, the sort 24 * 3
        Use.counts("one value, 3 frames", q, 4 + 20 + 9 + 12 + 72, 3, 1);
        q = new FrameQueries(4);
        Use.fillSame(q, 0, 5, -1);
        Use.fillSame(q, 1, 9, -1);
        q.join(1, 2);
        Use.runs("one value, 4 frames", q, 45);
        // level 2 is 3 + 2 * 2 (two begun groups of two blocks); the sort 24, a pass 24
        Use.counts("one value, 4 frames", q, 4 + 20 + 7 + 12 + 48, 4, 1);
        q.insert(1, 0, 0, 0, 4);
        q.insert(0, 0, 0, 0, 2);
        Use.runs("NULL is in no part", q, 45);
        Use.counts("NULL is in no part", q, 4 + 20 + 7 + 12 + 48, 4, 1);
        q.clear(1);
        Use.fillSame(q, 1, 8, -1);
        for (int i = 0; i < 4; i++) {
            q.insert(1, 0, 0, 0, 7);
        }
        Use.runs("NULL counts before the lists are parted", q, 40);
        // level 0: 2 + 3 and 2 + 2, then the 2 blocks fit: 2 + 2; the pairs 10, the sort 20 and 20
        Use.counts("NULL counts before the lists are parted", q, 4 + 9 + 4 + 10 + 40, 4, 1);
    }

    /** What is due is reckoned from the document's words for two values, apart from the program. */
    private static void partsByValue() {
        int[] values = {1, 2, 3, 100000, -1, MIN, MAX, 65536, -70000, 12345678};
        for (int frames = 3; frames <= 4; frames++) {
            for (int value : values) {
                for (int other : values) {
                    if (value != other) {
                        twoValues(frames, value, other);
                    }
                }
            }
        }
    }

    /** Table 0 has one row of each value, table 1 five of the first and eight of the second. */
    private static void twoValues(int frames, int value, int other) {
        FrameQueries q = new FrameQueries(frames);
        Use.fillSame(q, 0, 1, value);
        Use.fillSame(q, 0, 1, other);
        Use.fillSame(q, 1, 5, value);
        Use.fillSame(q, 1, 8, other);
        q.join(0, 0);
        String what = frames + " frames, " + value + " and " + other;
        Use.runs(what, q, 13);
        int sort = 8 + (frames == 3 ? 8 : 0);
        Check.due(what + ": transfers()", q.transfers(), 2 + matchTogether(frames, value, other, 0) + 4 + sort);
        Check.due(what + ": held()", q.held(), frames);
    }

    private static int matchTogether(int frames, int value, int other, int level) {
        if (level == 2) {
            return 4 + (frames == 3 ? 4 : 2);
        }
        if (partOf(value, level, frames - 1) == partOf(other, level, frames - 1)) {
            return 1 + 4 + 1 + 4 + matchTogether(frames, value, other, level + 1);
        }
        // both parts have two blocks of table 1 and one of table 0
        return 1 + 4 + 3 + 3 + 2 * matchAlone(frames, level + 1);
    }

    private static int matchAlone(int frames, int level) {
        if (frames > 3) {
            return 3;
        }
        return level == 2 ? 2 + 2 : 1 + 2 + 1 + 2 + matchAlone(frames, level + 1);
    }

    private static int partOf(int value, int level, int parts) {
        long unsigned = Integer.toUnsignedLong(value);
        long h = ((unsigned ^ (unsigned >> 16)) * 73244475L) & 0xffffffffL;
        return (int) ((h >> (3 + 7 * level)) % parts);
    }
}
