/** The edges of the terms for a join: which rows pair, how many may, and how lists are matched level by level. */
public final class EdgeJoinTest {
    private static final int MIN = Edge.MIN;
    private static final int MAX = Edge.MAX;

    /**
     * A value, then its parts at levels 0 and 1 in 3 frames, in 4, and so on to 7; they were worked
     * out apart from the program, in numbers that do not wrap, with h kept to its last 32 bits.
     */
    private static final int[][] PARTS = {
        {MIN, 0, 0, 2, 1, 0, 0, 3, 1, 2, 4},
        {MIN + 1, 1, 1, 2, 2, 3, 3, 2, 3, 5, 5},
        {-1, 0, 0, 1, 2, 0, 0, 1, 2, 4, 2},
        {0, 0, 0, 0, 0, 0, 0, 0, 0, 0, 0},
        {1, 1, 1, 0, 1, 3, 3, 4, 2, 3, 1},
        {2, 0, 1, 0, 0, 2, 3, 3, 0, 0, 3},
        {65535, 0, 0, 0, 0, 0, 0, 1, 4, 0, 0},
        {65536, 1, 1, 1, 0, 3, 3, 0, 4, 1, 3},
        {MAX - 1, 1, 1, 0, 1, 3, 3, 3, 0, 3, 1},
        {MAX, 0, 0, 0, 0, 0, 0, 4, 3, 0, 0},
        {7, 1, 0, 2, 0, 3, 2, 0, 4, 5, 0},
        {8, 1, 0, 0, 2, 3, 2, 0, 2, 3, 2},
    };

    public static void main(String[] args) {
        sameInts();
        nullJoinsNothing();
        atMostSixty();
        moreThanSixty();
        roomAfterTheFilter();
        noKeptRows();
        noRowsInTable1();
        blocksOfPairs();
        fitsInFrames();
        fitsOrNot();
        holdsWhatFits();
        groupsAtLevel2();
        groupsForEachBlockOfTable0();
        partsWithoutRows();
        partsOfNull();
        nullInNoPart();
        partsByTheJoinsColumns();
        partsOfExtremes();
        Check.end();
    }

    private static void sameInts() {
        Check.sentence("a row for each pair of rows in which both are the same int");
        Integer[] values = {MIN, MIN + 1, -65536, -1, 0, 1, 65535, 65536, 65537, MAX - 1, MAX};
        FrameQueries q = new FrameQueries(8);
        for (int i = 0; i < values.length; i++) {
            Use.fill(q, 0, new Integer[][] {{values[i], i, 0}});
            Use.fill(q, 1, new Integer[][] {{0, values[values.length - 1 - i], 0}});
        }
        q.join(0, 1);
        Use.runs("each with itself", q, values.length);
        Use.column("each with itself", q, 0, values);
        Use.column("each with itself", q, 4, values);
    }

    private static void nullJoinsNothing() {
        Check.sentence("(NULL joins nothing)");
        FrameQueries q = new FrameQueries(8);
        Use.fill(q, 0, new Integer[][] {{null, 1, 1}, {0, 2, 2}, {MIN, 3, 3}, {77, 4, 4}});
        Use.fill(q, 1, new Integer[][] {{null, 1, 1}, {null, 2, 2}});
        q.join(0, 0);
        Use.runs("NULL with NULL and with ints", q, 0);
        Use.fill(q, 1, new Integer[][] {{0, 3, 3}});
        Use.runs("0 with 0 alone", q, 1);
        Use.column("0 with 0 alone", q, 1, 2);
        Use.column("0 with 0 alone", q, 4, 3);
    }

    private static void atMostSixty() {
        Check.sentence("j of them, at most 60");
        int[][] shapes = {{3, 20}, {4, 15}, {5, 12}, {6, 10}, {10, 6}, {12, 5}, {15, 4}, {20, 3}};
        for (int[] shape : shapes) {
            for (int frames = 3; frames <= 8; frames++) {
                FrameQueries q = new FrameQueries(frames);
                Use.fillSame(q, 0, shape[0], 5);
                Use.fillSame(q, 1, shape[1], 5);
                q.join(2, 1);
                Use.runs(shape[0] + " rows with " + shape[1], q, 60);
            }
        }
        FrameQueries q = Edge.joining(4, 59);
        Use.runs("59 pairs", q, 59);
        Use.fillSame(q, 0, 1, 2);
        Use.runs("60 pairs", q, 60);
    }

    private static void moreThanSixty() {
        Check.sentence("More: the query ends with ROOM");
        FrameQueries q = Edge.joining(4, 60);
        Use.runs("60 pairs", q, 60);
        Use.fillSame(q, 0, 1, 2);
        Use.runs("61 pairs", q, Edge.ROOM);
        Use.noResult("61 pairs", q);
        int[][] shapes = {{3, 21}, {21, 3}, {24, 3}, {3, 24}, {8, 8}, {24, 24}, {7, 9}};
        for (int[] shape : shapes) {
            for (int frames = 3; frames <= 8; frames++) {
                FrameQueries more = new FrameQueries(frames);
                Use.fillSame(more, 0, shape[0], 5);
                Use.fillSame(more, 1, shape[1], 5);
                more.join(0, 0);
                Use.runs(shape[0] + " rows with " + shape[1], more, Edge.ROOM);
            }
        }
    }

    private static void roomAfterTheFilter() {
        Check.sentence("of column x (0 .. 2) of the k rows", "those alone that the filter keeps make pairs");
        FrameQueries q = Edge.joining(4, 60);
        Use.fillSame(q, 0, 4, 2);
        Use.runs("64 pairs", q, Edge.ROOM);
        q.filter(0, 1, 1);
        Use.runs("60 pairs", q, 60);
        q.filter(0, 1, 2);
        Use.runs("4 pairs", q, 4);
    }

    private static void noKeptRows() {
        Check.sentence("If k or u is 0, j is 0 and it transfers nothing and holds none", "k is 0");
        for (int frames = 3; frames <= 8; frames++) {
            FrameQueries q = Edge.counting(frames, 1);
            Use.fillCounting(q, 1, 24);
            q.join(0, 0);
            q.filter(0, 3, 0);
            Use.runs("k = 0", q, 0);
            Use.counts("k = 0", q, 1, 2, 1);
            q.clear(0);
            Use.runs("n = 0", q, 0);
            Use.counts("n = 0", q, 0, 0, 1);
        }
    }

    private static void noRowsInTable1() {
        Check.sentence("If k or u is 0, j is 0 and it transfers nothing and holds none", "u is 0");
        for (int frames = 3; frames <= 8; frames++) {
            FrameQueries q = Edge.counting(frames, 24);
            q.join(0, 0);
            Use.runs("u = 0", q, 0);
            Use.counts("u = 0", q, 12, 2, 1);
            q.clear(0);
            Use.runs("n = 0, u = 0", q, 0);
            Use.counts("n = 0, u = 0", q, 0, 0, 1);
        }
    }

    private static void blocksOfPairs() {
        Check.sentence("after all |j| transfers for the rows that come of it");
        int[][] pairsAndBlocks = {{0, 0}, {1, 1}, {4, 1}, {5, 2}, {8, 2}, {9, 3}, {20, 5}, {21, 6}, {24, 6}};
        for (int[] edge : pairsAndBlocks) {
            FrameQueries q = new FrameQueries(8);
            Use.fillSame(q, 0, edge[0], 1);
            Use.fillSame(q, 0, 24 - edge[0], 2);
            Use.fillSame(q, 1, 1, 1);
            q.join(0, 0);
            Use.runs(edge[0] + " pairs", q, edge[0]);
            // the filter 6 + 6, the match 1 + 6, the sort of up to six blocks one run
            Check.due(edge[0] + " pairs", q.transfers(), 12 + 7 + edge[1] + 2 * edge[1]);
        }
    }

    /** No row pairs, so that the match is all there is beside the filter. */
    private static FrameQueries unpaired(int frames, int rows0, int rows1) {
        FrameQueries q = new FrameQueries(frames);
        Use.fillSame(q, 0, rows0, 1);
        Use.fillSame(q, 1, rows1, 0);
        q.join(0, 0);
        return q;
    }

    private static void fitsInFrames() {
        Check.sentence("if |q| <= M - 2: transfers |q| + |p|");
        int[][] rowsAndBlocks = {{1, 1}, {4, 1}, {5, 2}, {8, 2}, {9, 3}, {12, 3}, {13, 4}, {16, 4}, {17, 5}, {20, 5}, {21, 6}, {24, 6}};
        for (int frames = 3; frames <= 8; frames++) {
            for (int[] p : rowsAndBlocks) {
                for (int[] q : rowsAndBlocks) {
                    if (q[1] <= frames - 2) {
                        FrameQueries o = unpaired(frames, p[0], q[0]);
                        String what = p[0] + " and " + q[0] + " rows in " + frames + " frames";
                        Use.runs(what, o, 0);
                        Check.due(what, o.transfers(), 2 * p[1] + p[1] + q[1]);
                    }
                }
            }
        }
    }

    private static void fitsOrNot() {
        Check.sentence("if |q| <= M - 2 [..] Otherwise both lists are parted into M - 1 PARTS");
        for (int frames = 3; frames <= 7; frames++) {
            int most = frames - 2;
            FrameQueries fits = unpaired(frames, 1, 4 * most);
            Use.runs("the last that fits", fits, 0);
            Use.counts("the last that fits", fits, 2 + 1 + most, frames, 1);
            FrameQueries parted = unpaired(frames, 1, 4 * most + 1);
            Use.runs("the first that does not", parted, 0);
            // 0 and 1 are in different parts everywhere but in four frames, where level 1 parts them
            int level = 1 + most + 1 + 1 + most + 1;
            Use.counts("the first that does not", parted, 2 + level * (frames == 4 ? 2 : 1), frames, 1);
        }
        FrameQueries full = unpaired(8, 24, 24);
        Use.runs("full tables fit in eight frames", full, 0);
        Use.counts("full tables fit in eight frames", full, 12 + 6 + 6, 8, 1);
    }

    private static void holdsWhatFits() {
        Check.sentence("if |q| <= M - 2: [..] holds |q| + 2");
        int[] blocks = {1, 1, 1, 1, 2, 2, 2, 2, 3, 3, 3, 3, 4, 4, 4, 4, 5, 5, 5, 5, 6, 6, 6, 6};
        for (int rows = 1; rows <= 24; rows++) {
            FrameQueries q = unpaired(8, 1, rows);
            Use.runs(rows + " rows of table 1", q, 0);
            Check.due(rows + " rows of table 1", q.held(), blocks[rows - 1] + 2);
            FrameQueries long0 = unpaired(8, 24, rows);
            Use.runs(rows + " rows of table 1", long0, 0);
            Check.due(rows + " rows of table 1 and 24 of table 0", long0.held(), blocks[rows - 1] + 2);
        }
    }

    /** Passes of a sort of up to six blocks: one if they are more than the frames. */
    private static int sortOf(int frames, int blocks) {
        return blocks > frames ? 4 * blocks : 2 * blocks;
    }

    private static void groupsAtLevel2() {
        Check.sentence("at level 2: transfers |q|, and |p| for each full or begun group of M - 2 blocks of the |q|; holds M");
        // frames, blocks of table 1, groups of M - 2 blocks
        int[][] edges = {
            {3, 2, 2}, {3, 3, 3}, {3, 4, 4}, {3, 5, 5}, {3, 6, 6}, {4, 3, 2}, {4, 4, 2}, {4, 5, 3}, {4, 6, 3},
            {5, 4, 2}, {5, 5, 2}, {5, 6, 2}, {6, 5, 2}, {6, 6, 2}, {7, 6, 2},
        };
        for (int[] edge : edges) {
            int frames = edge[0];
            int q = edge[1];
            for (int rows = 4 * q - 3; rows <= 4 * q; rows++) {
                FrameQueries o = new FrameQueries(frames);
                Use.fillSame(o, 0, 1, MAX);
                Use.fillSame(o, 1, rows, MAX);
                o.join(0, 0);
                String what = rows + " rows of one value in " + frames + " frames";
                Use.runs(what, o, rows);
                int match = 2 * (1 + q + 1 + q) + q + edge[2];
                Use.counts(what, o, 2 + match + q + sortOf(frames, q), frames, 1);
            }
        }
    }

    private static void groupsForEachBlockOfTable0() {
        Check.sentence("at level 2: [..] |p| for each full or begun group of M - 2 blocks of the |q|", "for each block of table 0");
        for (int rows = 1; rows <= 12; rows++) {
            FrameQueries o = new FrameQueries(3);
            Use.fillSame(o, 0, rows, 9);
            Use.fillSame(o, 1, 5, 9);
            o.join(0, 0);
            Use.runs(rows + " rows with five", o, 5 * rows);
            int p = (rows + 3) / 4;
            int blocks = (5 * rows + 3) / 4;
            int runs = (blocks + 2) / 3;
            int passes = runs > 4 ? 3 : runs > 2 ? 2 : runs > 1 ? 1 : 0;
            int match = 2 * (p + 2 + p + 2) + 2 + 2 * p;
            Check.due(rows + " rows with five", o.transfers(), 2 * p + match + blocks + 2 * blocks * (1 + passes));
        }
    }

    private static void partsWithoutRows() {
        Check.sentence("then the two lists of each part, if neither is empty, are matched at the next level");
        // in three frames 0 is in parts 0 and 0, 2 in parts 0 and 1, 1 in part 1
        FrameQueries apart = new FrameQueries(3);
        Use.fillSame(apart, 0, 5, 1);
        Use.fillSame(apart, 1, 5, 0);
        apart.join(0, 0);
        Use.runs("in different parts at level 0", apart, 0);
        Use.counts("in different parts at level 0", apart, 4 + 4 + 4, 3, 1);
        FrameQueries later = new FrameQueries(3);
        Use.fillSame(later, 0, 5, 2);
        Use.fillSame(later, 1, 5, 0);
        later.join(0, 0);
        Use.runs("in different parts at level 1", later, 0);
        Use.counts("in different parts at level 1", later, 4 + 8 + 8, 3, 1);
        FrameQueries some = new FrameQueries(3);
        Use.fillSame(some, 0, 4, 1);
        Use.fillSame(some, 0, 1, 2);
        Use.fillSame(some, 1, 4, 1);
        Use.fillSame(some, 1, 4, 0);
        some.join(0, 0);
        Use.runs("two parts that fit", some, 16);
        // the filter 4; level 0 reads 2 + 2, writes 1 + 1 and 1 + 1; each part fits: 1 + 1; then 4 and 8 + 8
        Use.counts("two parts that fit", some, 4 + 4 + 4 + 2 + 2 + 4 + 16, 3, 1);
    }

    private static void partsOfNull() {
        Check.sentence("rows with NULL are in none", "lists of nothing else");
        FrameQueries q = new FrameQueries(3);
        for (int i = 0; i < 9; i++) {
            q.insert(0, 0, 0, 0, 1);
            q.insert(1, 0, 0, 0, 0);
        }
        q.join(0, 0);
        Use.runs("all NULL in table 0", q, 0);
        Use.counts("all NULL in table 0", q, 6 + 3 + 3 + 3, 3, 1);
        q.clear(1);
        for (int i = 0; i < 9; i++) {
            q.insert(1, 0, 0, 0, 7);
        }
        q.join(1, 1);
        Use.runs("all NULL in table 1", q, 0);
        Use.counts("all NULL in table 1", q, 6 + 3 + 3 + 3, 3, 1);
        q.join(0, 1);
        Use.runs("all NULL in both", q, 0);
        Use.counts("all NULL in both", q, 6 + 3 + 3, 3, 1);
    }

    private static void nullInNoPart() {
        Check.sentence("rows with NULL are in none", "beside others");
        FrameQueries q = new FrameQueries(4);
        Use.fillSame(q, 0, 1, 5);
        Use.fillSame(q, 1, 8, 5);
        q.join(0, 0);
        Use.runs("eight rows fit", q, 8);
        Use.counts("eight rows fit", q, 2 + 2 + 1 + 2 + 4, 4, 1);
        q.insert(1, 5, 5, 5, 1);
        Use.runs("a row with NULL is read, but in no part", q, 8);
        Use.counts("a row with NULL is read, but in no part", q, 2 + (3 + 1) + (2 + 1) + (2 + 1) + 2 + 4, 4, 1);
        q.insert(0, 5, 5, 5, 1);
        for (int i = 0; i < 3; i++) {
            q.insert(0, 5, 5, 5, 1);
        }
        Use.runs("four rows with NULL in table 0", q, 8);
        Use.counts("four rows with NULL in table 0", q, 4 + (3 + 2) + (2 + 1) + (2 + 1) + 2 + 4, 4, 1);
    }

    /** The columns that are not joined are all 0, which is in another part than 1 at level 0 in three frames. */
    private static void partsByTheJoinsColumns() {
        Check.sentence("The part of a row is that of its value v in the join's column");
        for (int x = 0; x <= 2; x++) {
            for (int y = 0; y <= 2; y++) {
                FrameQueries q = new FrameQueries(3);
                q.insert(0, x == 0 ? 1 : 0, x == 1 ? 1 : 0, x == 2 ? 1 : 0, 0);
                for (int i = 0; i < 5; i++) {
                    q.insert(1, y == 0 ? 1 : 0, y == 1 ? 1 : 0, y == 2 ? 1 : 0, 0);
                }
                q.join(x, y);
                String what = "join(" + x + ", " + y + ")";
                Use.runs(what, q, 5);
                // the filter 2, levels 0 and 1 each 3 + 3, level 2 2 + 2, the pairs 2, the sort 4
                Use.counts(what, q, 2 + 6 + 6 + 4 + 2 + 4, 3, 1);
            }
        }
    }

    /** Two values, nine rows and thirteen of table 1: in one part they stay six blocks, in two they are seven. */
    private static void partsOfExtremes() {
        Check.sentence("with h = (v exclusive-or v >>> 16) * 73244475 (wrapping), it is the rest of h >>> (3 + 7 * level) divided by M - 1");
        for (int frames = 3; frames <= 7; frames++) {
            for (int[] nine : PARTS) {
                for (int[] thirteen : PARTS) {
                    if (nine != thirteen) {
                        twoValues(frames, nine, thirteen);
                    }
                }
            }
        }
    }

    private static void twoValues(int frames, int[] nine, int[] thirteen) {
        FrameQueries q = new FrameQueries(frames);
        Use.fillSame(q, 0, 1, nine[0]);
        Use.fillSame(q, 0, 1, thirteen[0]);
        Use.fillSame(q, 1, 9, nine[0]);
        Use.fillSame(q, 1, 13, thirteen[0]);
        q.join(0, 0);
        String what = nine[0] + " and " + thirteen[0] + " in " + frames + " frames";
        Use.runs(what, q, 22);
        Use.counts(what, q, 2 + together(frames, nine, thirteen, 0) + 6 + sortOf(frames, 6), frames, 1);
    }

    private static int together(int frames, int[] nine, int[] thirteen, int level) {
        if (level == 2) {
            return 6 + (6 + frames - 3) / (frames - 2);
        }
        int column = 1 + 2 * (frames - 3) + level;
        if (nine[column] == thirteen[column]) {
            return 1 + 6 + 1 + 6 + together(frames, nine, thirteen, level + 1);
        }
        return 1 + 6 + (1 + 3) + (1 + 4) + alone(frames, 3, level + 1) + alone(frames, 4, level + 1);
    }

    private static int alone(int frames, int q, int level) {
        if (q <= frames - 2) {
            return q + 1;
        }
        if (level == 2) {
            return q + (q + frames - 3) / (frames - 2);
        }
        return 1 + q + 1 + q + alone(frames, q, level + 1);
    }
}
