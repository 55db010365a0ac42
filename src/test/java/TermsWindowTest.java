/** The terms for windows, sorts and the order of the result: the sentences that say what is (for their edges see Edge*Test). */
public final class TermsWindowTest {
    private static final int NONE = Edge.NONE;

    public static void main(String[] args) {
        keysOfAWindow();
        sortedWhenNotOrdered();
        partitionsGoUp();
        orderOfTheResult();
        equalRowsByOrigin();
        runsOfASort();
        heldWhileMerging();
        partitionInTheOrderOfTheList();
        partitionOfASortByMoreKeys();
        secondOrder();
        addedWindows();
        directions();
        Check.end();
    }

    /** The rows have 0, 1, 2 .. in column 2, so that it tells in which order they are. */
    private static FrameQueries shuffled() {
        return Use.withTable0(6, new Integer[][] {{2, 1, 0}, {1, 2, 1}, {2, null, 2}, {null, 2, 3}, {1, 1, 4}, {2, 2, 5}});
    }

    private static void orderAfter(String what, int partition, int order, boolean down, Integer... rows) {
        FrameQueries q = shuffled();
        q.window(0, 0, 1);
        Check.yes(what, q.over(0, partition, order, down));
        Use.runs(what, q, 6);
        Use.column(what, q, 2, rows);
        Check.due(what + ": sorts()", q.sorts(), 1);
    }

    private static void keysOfAWindow() {
        Check.sentence("A window's KEYS are its partition column, if it has one, then its order column, if it has one");
        orderAfter("no keys", NONE, NONE, true, 0, 1, 2, 3, 4, 5);
        orderAfter("a partition column", 0, NONE, true, 3, 1, 4, 0, 2, 5);
        orderAfter("an order column", NONE, 1, false, 2, 0, 4, 1, 3, 5);
        orderAfter("an order column, down", NONE, 1, true, 1, 3, 5, 0, 4, 2);
        orderAfter("both", 0, 1, false, 3, 4, 1, 2, 0, 5);
        orderAfter("both, the latter down", 0, 1, true, 3, 1, 4, 5, 0, 2);
        orderAfter("both, the other way round", 1, 0, false, 2, 4, 0, 3, 1, 5);
        orderAfter("one column as both", 0, 0, true, 3, 1, 4, 0, 2, 5);
    }

    /** What a window can be over, and its keys as a text of which another's are the beginning or not. */
    private static final int[][] OVERS = {
        {NONE, NONE, 0}, {0, NONE, 0}, {1, NONE, 1}, {NONE, 0, 0}, {NONE, 0, 1}, {NONE, 1, 0}, {NONE, 1, 1},
        {0, 0, 0}, {0, 0, 1}, {0, 1, 0}, {0, 1, 1}, {1, 0, 0}, {1, 0, 1}, {1, 1, 0}, {1, 1, 1},
    };
    private static final String[] KEYS = {
        "", "0up", "1up", "0up", "0down", "1up", "1down",
        "0up0up", "0up0down", "0up1up", "0up1down", "1up0up", "1up0down", "1up1up", "1up1down",
    };
    private static final int[] KEY_COUNTS = {0, 1, 1, 1, 1, 1, 1, 2, 2, 2, 2, 2, 2, 2, 2};
    private static final String[] ORDERS = {"", "0up", "0down", "1up", "1down"};

    private static void sortedWhenNotOrdered() {
        Check.sentence("Before each: if the list is not ORDERED for it, it is SORTED by its keys. Before the first sort the list is ordered for no window; after a sort it is ordered by its keys, and ordered for a window if the window's keys are the first ones of those, the directions the same");
        for (int a = 0; a < OVERS.length; a++) {
            for (int b = 0; b < OVERS.length; b++) {
                for (int c = 0; c < OVERS.length; c++) {
                    for (int order = 0; order < ORDERS.length; order++) {
                        sortsOfThree(order, a, b, c);
                    }
                }
            }
        }
    }

    private static void sortsOfThree(int order, int... overs) {
        FrameQueries q = shuffled();
        for (int w = 0; w < 3; w++) {
            int[] over = OVERS[overs[w]];
            q.window(0, 0, 1);
            q.over(w, over[0], over[1], over[2] == 1);
        }
        if (order > 0) {
            q.order((order - 1) / 2, order % 2 == 0);
        }
        String sorted = null;
        int sorts = 0;
        for (int keyCount = 2; keyCount >= 0; keyCount--) {
            for (int w : overs) {
                if (KEY_COUNTS[w] == keyCount && (sorted == null || !sorted.startsWith(KEYS[w]))) {
                    sorted = KEYS[w];
                    sorts++;
                }
            }
        }
        if (!sorted.startsWith(ORDERS[order])) {
            sorts++;
        }
        String what = "windows by [" + KEYS[overs[0]] + "] [" + KEYS[overs[1]] + "] [" + KEYS[overs[2]] + "], order by [" + ORDERS[order] + "]";
        Use.runs(what, q, 6);
        Check.due(what + ": sorts()", q.sorts(), sorts);
        // the filter, three windows and each sort read two blocks and write two
        Check.due(what + ": transfers()", q.transfers(), 4 + 3 * 4 + sorts * 4);
    }

    private static void partitionsGoUp() {
        Check.sentence("(a partition column has the direction up;");
        for (int down = 0; down <= 1; down++) {
            FrameQueries q = shuffled();
            q.window(0, 0, 1);
            q.over(0, 0, NONE, down == 1);
            q.order(0, false);
            Use.runs("an order up", q, 6);
            Check.due("an order up: sorts()", q.sorts(), 1);
            Use.column("an order up", q, 0, null, 1, 1, 2, 2, 2);
            q.order(0, true);
            Use.runs("an order down", q, 6);
            Check.due("an order down: sorts()", q.sorts(), 2);
            Use.column("an order down", q, 0, 2, 2, 2, 1, 1, null);
            q.over(0, 0, 1, down == 1);
            q.order(0, false);
            Use.runs("an order up, the window's order beside it", q, 6);
            Check.due("an order up, the window's order beside it: sorts()", q.sorts(), 1);
        }
    }

    private static void orderOfTheResult() {
        Check.sentence("If there is an order, the list is sorted by its column, in its direction [..] The rows are then the query's RESULT, in this order");
        FrameQueries q = shuffled();
        q.window(0, 0, 1);
        q.over(0, NONE, 1, true);
        q.order(0, false);
        Use.runs("up", q, 6);
        Use.column("up: column 0", q, 0, null, 1, 1, 2, 2, 2);
        Use.column("up: rows", q, 2, 3, 1, 4, 0, 2, 5);
        Use.column("up: what the window made of the order before", q, 6, 2, 1, 5, 4, 6, 3);
        q.order(0, true);
        Use.runs("down", q, 6);
        Use.column("down: rows", q, 2, 0, 2, 5, 1, 4, 3);
        Use.column("down: what the window made of the order before", q, 6, 4, 6, 3, 1, 5, 2);
        q.order(6, true);
        Use.runs("by the window's column, down", q, 6);
        Use.column("by the window's column, down", q, 2, 2, 4, 0, 5, 3, 1);
        q.order(6, false);
        Use.runs("by the window's column, up", q, 6);
        Use.column("by the window's column, up", q, 2, 1, 3, 5, 0, 4, 2);
    }

    private static void equalRowsByOrigin() {
        Check.sentence("A SORT of n rows is by the keys, in their directions, then by origin (up)");
        FrameQueries q = Use.withTable0(6, new Integer[][] {{7, 1, 0}, {7, 3, 1}, {7, 2, 2}, {7, 3, 3}, {7, 1, 4}});
        q.window(0, 0, 1);
        q.over(0, NONE, 1, true);
        Use.runs("down", q, 5);
        Use.column("down, but equal ones by origin", q, 2, 1, 3, 2, 0, 4);
        for (int down = 0; down <= 1; down++) {
            q.order(0, down == 1);
            Use.runs("all equal", q, 5);
            Use.column("not in the order of the sort before", q, 2, 0, 1, 2, 3, 4);
        }
        Use.fill(q, 1, new Integer[][] {{7, 5, 0}, {7, 4, 1}});
        q.join(0, 0);
        q.over(0, NONE, 4, false);
        q.order(3, true);
        Use.runs("pairs", q, 10);
        Use.column("pairs, by table 0's rows first", q, 2, 0, 0, 1, 1, 2, 2, 3, 3, 4, 4);
        Use.column("pairs, then by table 1's", q, 5, 0, 1, 0, 1, 0, 1, 0, 1, 0, 1);
    }

    /** The transfers of one sort: the filter beside it takes 2 * |n|. */
    private static int transfersOfSort(int frames, int blocks) {
        FrameQueries q = Edge.counting(frames, 4 * blocks);
        Use.runs(blocks + " blocks in " + frames + " frames", q, 4 * blocks);
        return q.transfers() - 2 * blocks;
    }

    private static void runsOfASort() {
        Check.sentence("It makes RUNS of M blocks (the last one perhaps shorter), r = |n| / M, rounded up: transfers 2 * |n|");
        Check.due("3 blocks, 1 run", transfersOfSort(3, 3), 6);
        Check.due("4 blocks, 2 runs, 1 pass", transfersOfSort(3, 4), 8 + 8);
        Check.due("6 blocks, 2 runs, 1 pass", transfersOfSort(3, 6), 12 + 12);
        Check.due("4 blocks, 1 run", transfersOfSort(4, 4), 8);
        Check.due("5 blocks, 2 runs, 1 pass", transfersOfSort(4, 5), 10 + 10);
        Check.due("6 blocks, 2 runs, 1 pass", transfersOfSort(4, 6), 12 + 12);
        Check.due("5 blocks, 1 run", transfersOfSort(5, 5), 10);
        Check.due("6 blocks, 2 runs, 1 pass", transfersOfSort(5, 6), 12 + 12);
        Check.due("6 blocks, 1 run", transfersOfSort(6, 6), 12);
    }

    private static void heldWhileMerging() {
        Check.sentence("holds 1 + the most runs that are merged into one in it", "no more than M, which the runs held before");
        for (int frames = 3; frames <= 8; frames++) {
            for (int rows = 4 * frames + 1; rows <= 60; rows++) {
                FrameQueries q = Edge.joining(frames, rows);
                Use.runs("more than one run", q, rows);
                Check.due(rows + " rows in " + frames + " frames", q.held(), frames);
            }
        }
    }

    private static void partitionInTheOrderOfTheList() {
        Check.sentence("In a partition the rows are in the order of the list");
        FrameQueries q = shuffled();
        q.window(4, 2, 1);
        q.window(7, 2, 1);
        q.frame(1, false, 1, 2);
        q.window(0, 0, 1);
        q.over(2, NONE, 1, true);
        Use.runs("windows without keys, in the order that another's sort made", q, 6);
        Use.column("the list", q, 2, 1, 3, 5, 0, 4, 2);
        Use.column("LAG", q, 6, null, 1, 3, 5, 0, 4);
        Use.column("LAST of the next two", q, 7, 5, 0, 4, 2, 2, null);
        Use.column("ROW NUMBER", q, 8, 1, 2, 3, 4, 5, 6);
    }

    private static void partitionOfASortByMoreKeys() {
        Check.sentence("In a partition the rows are in the order of the list", "that a sort by more keys made");
        FrameQueries q = shuffled();
        q.window(0, 0, 1);
        q.over(0, 0, NONE, false);
        q.window(5, 2, 1);
        q.over(1, 0, NONE, false);
        q.window(2, 0, 1);
        q.over(2, 0, 1, true);
        Use.runs("the partition alone, and with an order", q, 6);
        Check.due("sorts()", q.sorts(), 1);
        Use.column("the list", q, 2, 3, 1, 4, 5, 0, 2);
        Use.column("ROW NUMBER", q, 6, 1, 1, 2, 1, 2, 3);
        Use.column("LEAD", q, 7, null, 4, null, 0, 2, null);
        Use.column("DENSE RANK", q, 8, 1, 1, 2, 1, 2, 3);
    }

    private static void secondOrder() {
        Check.sentence("5: (in place of one that it has, as for join and order)");
        FrameQueries q = shuffled();
        Use.fill(q, 1, new Integer[][] {{1, 2, 9}, {2, 1, 8}});
        q.filter(0, 1, 1);
        q.filter(0, 1, 2);
        Use.runs("the second filter", q, 3);
        Use.column("the second filter", q, 2, 0, 2, 5);
        q.join(0, 0);
        q.join(1, 0);
        Use.runs("the second join", q, 2);
        Use.column("the second join", q, 3, 1, 2);
        q.order(0, false);
        q.order(1, true);
        Use.runs("the second order", q, 2);
        Use.column("the second order", q, 2, 5, 0);
    }

    private static void addedWindows() {
        Check.sentence("7: Adds a window with the function f (0 .. 11), the argument column arg (0 .. 5) and n (1 .. 9)");
        FrameQueries q = shuffled();
        Check.due("window 0", q.window(5, 2, 1), 0);
        q.over(0, 0, NONE, false);
        Check.due("window 1", q.window(4, 2, 2), 1);
        q.over(1, NONE, 1, true);
        Check.due("window 2", q.window(3, 1, 4), 2);
        q.order(2, false);
        Use.runs("three windows, each as it was told", q, 6);
        Use.column("LEAD in its partition", q, 6, 2, 4, 5, null, null, null);
        // by column 1 down, the rows were 1, 3, 5, 0, 4, 2
        Use.column("LAG by 2", q, 7, 3, null, 0, null, 5, 1);
        Use.column("TILE of 4, in that order", q, 8, 2, 1, 4, 1, 3, 2);
    }

    private static void directions() {
        Check.sentence("8: Window w gets its partition column and its order column (each 0 .. 5, or NONE for none), and the direction of the latter");
        FrameQueries q = shuffled();
        q.window(1, 0, 1);
        q.window(0, 0, 1);
        for (int i = 0; i < 4; i++) {
            boolean down = i % 2 == 1;
            Check.yes("over", q.over(0, NONE, 0, down));
            Use.runs("down " + down, q, 6);
            if (down) {
                Use.column("down", q, 2, 0, 2, 5, 1, 4, 3);
                Use.column("down", q, 6, 1, 1, 1, 4, 4, 6);
            } else {
                Use.column("up", q, 2, 3, 1, 4, 0, 2, 5);
                Use.column("up", q, 6, 1, 2, 2, 4, 4, 4);
            }
        }
    }
}
