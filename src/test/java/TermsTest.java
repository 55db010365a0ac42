/** The terms from the first to the last: the sentences that say what is, not where it ends (for that see Edge*Test). */
public final class TermsTest {
    private static final int NONE = Edge.NONE;

    public static void main(String[] args) {
        numbersOfRows();
        numbersAfterClear();
        nineColumns();
        columnsOfFailedWindows();
        keptRowsLieTogether();
        readAndWritten();
        framesHoldBlocks();
        oneOfEach();
        stepsInAnyOrderOfCalls();
        rowsInTheirOrder();
        nullOrNot();
        joinsOfColumns();
        matchedAtLevel0();
        listsThatAreNotAlike();
        partsInBlocksOfTheirOwn();
        Check.end();
    }

    /** Rows of both tables whose column 2 tells their number, and whose column 0 is the same in all. */
    private static FrameQueries numbered(int rows0, int rows1) {
        FrameQueries q = new FrameQueries(8);
        for (int i = 0; i < Math.max(rows0, rows1); i++) {
            if (i < rows1) {
                q.insert(1, 5, -i, i, 0);
            }
            if (i < rows0) {
                q.insert(0, 5, -i, i, 0);
            }
        }
        return q;
    }

    private static void numbersOfRows() {
        Check.sentence("numbered from 0 on in the order in which they were inserted");
        FrameQueries q = numbered(3, 4);
        q.join(0, 0);
        Use.runs("pairs by origin", q, 12);
        Use.column("table 0's rows", q, 2, 0, 0, 0, 0, 1, 1, 1, 1, 2, 2, 2, 2);
        Use.column("table 1's rows", q, 5, 0, 1, 2, 3, 0, 1, 2, 3, 0, 1, 2, 3);
        q.order(4, true);
        Use.runs("pairs by column 4, then by origin", q, 12);
        Use.column("table 0's rows", q, 2, 0, 1, 2, 0, 1, 2, 0, 1, 2, 0, 1, 2);
        Use.column("table 1's rows", q, 5, 0, 0, 0, 1, 1, 1, 2, 2, 2, 3, 3, 3);
    }

    private static void numbersAfterClear() {
        Check.sentence("numbered from 0 on in the order in which they were inserted", "after clear too");
        FrameQueries q = numbered(24, 24);
        q.clear(0);
        Use.fill(q, 0, new Integer[][] {{9, 3, 70}, {9, 1, 71}, {9, 2, 72}});
        q.order(0, true);
        Use.runs("three rows in place of 24", q, 3);
        Use.column("three rows in place of 24", q, 2, 70, 71, 72);
        Use.fill(q, 0, new Integer[][] {{9, 0, 73}});
        Use.runs("one more", q, 4);
        Use.column("one more", q, 2, 70, 71, 72, 73);
    }

    private static void nineColumns() {
        Check.sentence("The rows that go through a query have nine columns: 0 .. 2 those of table 0, 3 .. 5 those of table 1 (NULL without a join)");
        FrameQueries q = Use.withTable0(4, new Integer[][] {{1, 22, 33}});
        Use.fill(q, 1, new Integer[][] {{44, 1, 66}});
        Integer[] alone = {1, 22, 33, null, null, null, null, null, null};
        Use.runs("without a join", q, 1);
        for (int c = 0; c < 9; c++) {
            Use.column("without a join", q, c, alone[c]);
        }
        q.join(0, 1);
        q.window(6, 3, 1);
        q.window(6, 4, 1);
        q.window(6, 5, 1);
        Integer[] joined = {1, 22, 33, 44, 1, 66, 44, 1, 66};
        Use.runs("with a join and windows", q, 1);
        for (int c = 0; c < 9; c++) {
            Use.column("with a join and windows", q, c, joined[c]);
        }
    }

    private static void columnsOfFailedWindows() {
        Check.sentence("6 .. 8 the results of its windows 0 .. 2 (NULL before they are worked out)", "nothing is left of a run that failed");
        FrameQueries q = Use.withTable0(8, new Integer[][] {{Edge.MAX, 0, 0}, {1, 0, 0}});
        q.window(0, 0, 1);
        q.over(0, NONE, 1, false);
        q.window(9, 0, 1);
        q.over(1, NONE, 1, false);
        q.window(8, 0, 1);
        Use.runs("the third window fails", q, Edge.OVERFLOW);
        q.query();
        Use.runs("no windows", q, 2);
        for (int c = 6; c < 9; c++) {
            Use.column("no windows", q, c, null, null);
        }
    }

    private static void keptRowsLieTogether() {
        Check.sentence("A LIST of rows lies in BLOCKS of four, the last one perhaps not full");
        FrameQueries q = new FrameQueries(8);
        for (int i = 0; i < 24; i++) {
            q.insert(0, i % 4, i / 4, i, 0);
        }
        q.filter(0, 1, 3);
        Use.runs("one row of each block", q, 6);
        // six blocks read, six rows written in two, which are sorted
        Use.counts("one row of each block", q, 6 + 2 + 4, 2, 1);
        q.filter(1, 1, 3);
        Use.runs("all rows of one block", q, 4);
        Use.counts("all rows of one block", q, 6 + 1 + 2, 2, 1);
    }

    private static void readAndWritten() {
        Check.sentence("To read a block, or to write one, is a TRANSFER");
        FrameQueries q = Edge.counting(8, 16);
        q.filter(0, 3, 0);
        Use.runs("four blocks read, none written", q, 0);
        Check.due("four blocks read, none written", q.transfers(), 4);
        q.filter(0, 4, 0);
        Use.runs("read and written by the filter and by the sort", q, 16);
        Check.due("read and written by the filter and by the sort", q.transfers(), (4 + 4) + (4 + 4));
        q.window(0, 0, 1);
        Use.runs("and by a window", q, 16);
        Check.due("and by a window", q.transfers(), (4 + 4) + (4 + 4) + (4 + 4));
        q.order(1, false);
        Use.runs("and by another sort", q, 16);
        Check.due("and by another sort", q.transfers(), (4 + 4) + (4 + 4) + (4 + 4) + (4 + 4));
    }

    private static void framesHoldBlocks() {
        Check.sentence("M is the number of frames, each of which holds one block");
        int[] heldBySort = {3, 4, 5, 6, 6, 6};
        for (int frames = 3; frames <= 8; frames++) {
            FrameQueries q = Edge.counting(frames, 24);
            Use.runs("a sort of six blocks", q, 24);
            Check.due("a sort of six blocks in " + frames + " frames", q.held(), heldBySort[frames - 3]);
        }
    }

    private static void oneOfEach() {
        Check.sentence("A QUERY has at most one filter, one join, three windows and one order");
        FrameQueries often = numbered(5, 4);
        FrameQueries once = numbered(5, 4);
        for (int c = 0; c < 3; c++) {
            often.filter(c, 0, 100);
            often.join(2 - c, 0);
            often.order(c, true);
            Check.due("window " + c, often.window(c, 0, 1), c);
            once.window(c, 0, 1);
        }
        Check.due("a fourth window", often.window(3, 0, 1), NONE);
        often.filter(2, 2, 0);
        often.join(2, 2);
        often.order(4, false);
        once.filter(2, 2, 0);
        once.join(2, 2);
        once.order(4, false);
        Use.runs("the last ones alone", often, 3);
        Use.runs("the last ones alone", once, 3);
        Check.same("the last ones alone", Edge.seen(often, 4), Edge.seen(once, 4));
        Use.column("the last ones alone", often, 2, 3, 2, 1);
    }

    /** Makes one of the four calls that a query is told by; they do not hang on one another. */
    private static void tell(FrameQueries q, int what) {
        switch (what) {
            case 0:
                Check.yes("filter", q.filter(2, 2, 0));
                break;
            case 1:
                Check.yes("join", q.join(0, 0));
                break;
            case 2:
                Check.due("window", q.window(8, 5, 1), 0);
                Check.yes("over", q.over(0, 2, 4, false));
                Check.yes("frame", q.frame(0, false, -1, 0));
                break;
            default:
                Check.yes("order", q.order(6, true));
        }
    }

    private static void stepsInAnyOrderOfCalls() {
        Check.sentence("is run in STEPS", "in their own order, whatever that of the calls was");
        int tried = 0;
        for (int code = 0; code < 256; code++) {
            int[] calls = {code & 3, code >> 2 & 3, code >> 4 & 3, code >> 6};
            if ((1 << calls[0] | 1 << calls[1] | 1 << calls[2] | 1 << calls[3]) == 15) {
                FrameQueries q = numbered(3, 3);
                for (int call : calls) {
                    tell(q, call);
                }
                String what = "calls " + calls[0] + calls[1] + calls[2] + calls[3];
                Use.runs(what, q, 6);
                // in each partition table 1's rows 2, 1, 0, each with the sum of its own and the one before
                Use.column(what, q, 6, 3, 3, 2, 2, 1, 1);
                Use.column(what, q, 2, 1, 2, 1, 2, 1, 2);
                Use.column(what, q, 5, 1, 1, 2, 2, 0, 0);
                // the filter 1 + 1, the match 1 + 1, the pairs 2, a sort 4, the window 4, a sort 4
                Use.counts(what, q, 2 + 2 + 2 + 4 + 4 + 4, 3, 2);
                tried++;
            }
        }
        Check.due("orders of the calls", tried, 24);
    }

    private static void rowsInTheirOrder() {
        Check.sentence("The n rows of table 0 in their order; those for which the filter holds (all, without one) are kept, k of them");
        FrameQueries q = Use.withTable0(4, new Integer[][] {{3, 1, 0}, {1, 2, 1}, {2, 1, 2}, {1, 1, 3}, {3, 2, 4}});
        Use.runs("without a filter", q, 5);
        Use.column("without a filter", q, 2, 0, 1, 2, 3, 4);
        q.filter(1, 1, 1);
        Use.runs("three kept", q, 3);
        Use.column("three kept", q, 2, 0, 2, 3);
        q.filter(0, 0, 3);
        Use.runs("less than 3", q, 3);
        Use.column("less than 3", q, 2, 1, 2, 3);
        q.filter(0, 2, 1);
        Use.runs("greater than 1", q, 3);
        Use.column("greater than 1", q, 2, 0, 2, 4);
    }

    private static void nullOrNot() {
        Check.sentence("or asks whether it is NULL, or not");
        for (int c = 0; c < 3; c++) {
            FrameQueries q = new FrameQueries(4);
            for (int nulls = 0; nulls < 8; nulls++) {
                q.insert(0, nulls, Edge.MIN, Edge.MAX, nulls);
            }
            q.filter(c, 3, 0);
            q.window(9, c, 1);
            Use.runs("NULL in column " + c, q, 4);
            Use.column("NULL in column " + c, q, c, null, null, null, null);
            Use.column("ints in column " + c, q, 6, 0, 0, 0, 0);
            q.filter(c, 4, 0);
            Use.runs("not NULL in column " + c, q, 4);
            Use.column("ints in column " + c, q, 6, 4, 4, 4, 4);
        }
    }

    private static void joinsOfColumns() {
        Check.sentence("of column x (0 .. 2) of the k rows with column y (0 .. 2) of the u rows of table 1: a row for each pair of rows");
        for (int x = 0; x < 3; x++) {
            for (int y = 0; y < 3; y++) {
                FrameQueries q = Use.withTable0(4, new Integer[][] {{1, 2, 3}, {2, 3, 1}, {4, 4, 4}});
                Use.fill(q, 1, new Integer[][] {{3, 1, 2}, {1, 2, 3}, {5, 5, 5}, {2, 3, 1}});
                String what = "join(" + x + ", " + y + ")";
                q.join(x, y);
                Use.runs(what, q, 2);
                // rows 0 and 1 have 1, 2, 3 turned round, so that their columns x are x + 1 and x + 2
                Use.column(what, q, x, x + 1, (x + 1) % 3 + 1);
                Use.column(what, q, 3 + y, x + 1, (x + 1) % 3 + 1);
            }
        }
    }

    private static void matchedAtLevel0() {
        Check.sentence("Otherwise the two lists are MATCHED at level 0, and after all |j| transfers for the rows that come of it");
        // in three frames 1 is in parts 1 and 1, 8 in parts 1 and 0: together at level 0, apart at level 1
        FrameQueries q = new FrameQueries(3);
        Use.fillSame(q, 0, 1, 1);
        Use.fillSame(q, 1, 5, 8);
        q.join(0, 0);
        Use.runs("parted twice", q, 0);
        Use.counts("parted twice", q, 2 + (1 + 2 + 1 + 2) + (1 + 2 + 1 + 2), 3, 1);
        // 2 is in parts 0 and 1: apart from 1 at level 0, though together at level 1
        q.clear(1);
        Use.fillSame(q, 1, 5, 2);
        Use.runs("parted once", q, 0);
        Use.counts("parted once", q, 2 + (1 + 2 + 1 + 2), 3, 1);
    }

    private static void listsThatAreNotAlike() {
        Check.sentence("To match lists of p and q rows (q those of table 1), neither empty, at a level");
        FrameQueries few = new FrameQueries(3);
        Use.fillSame(few, 0, 24, 1);
        Use.fillSame(few, 1, 2, 1);
        few.join(0, 0);
        Use.runs("24 rows with 2", few, 48);
        // the filter 6 + 6, the match 1 + 6, the pairs 12, runs and two passes over four of them
        Use.counts("24 rows with 2", few, 12 + 7 + 12 + 24 * 3, 3, 1);
        FrameQueries many = new FrameQueries(3);
        Use.fillSame(many, 0, 2, 1);
        Use.fillSame(many, 1, 24, 1);
        many.join(0, 0);
        Use.runs("2 rows with 24", many, 48);
        // the filter 1 + 1, levels 0 and 1 each 1 + 6 + 1 + 6, level 2 reads table 0's block six times
        Use.counts("2 rows with 24", many, 2 + 28 + 6 + 6 + 12 + 24 * 3, 3, 1);
    }

    private static void partsInBlocksOfTheirOwn() {
        Check.sentence("Otherwise both lists are parted into M - 1 PARTS: transfers |p| + |q| and, for each part, the blocks of its rows of either list; holds M");
        // in three frames 0 is in part 0, 1 in part 1
        FrameQueries q = new FrameQueries(3);
        Use.fillSame(q, 0, 5, 0);
        Use.fillSame(q, 0, 5, 1);
        Use.fillSame(q, 1, 3, 0);
        Use.fillSame(q, 1, 2, 1);
        q.join(0, 0);
        Use.runs("two parts", q, 25);
        // the filter 3 + 3; 3 + 2 blocks become 2 + 1 and 2 + 1, which are matched; the pairs 7, a sort of three runs
        Use.counts("two parts", q, 6 + 5 + 6 + 6 + 7 + 14 * 3, 3, 1);
        q.filter(0, 1, 1);
        Use.runs("one part without rows of table 0", q, 10);
        // the filter 3 + 2; 2 + 2 blocks become 0 + 1 and 2 + 1, the latter matched; the pairs 3, a sort of one run
        Use.counts("one part without rows of table 0", q, 5 + 4 + 4 + 3 + 3 + 6, 3, 1);
    }
}
