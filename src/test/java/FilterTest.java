/** Promise 5 (filter), with promise 4 (query) where it takes the filter away. */
public final class FilterTest {
    private static final int MIN = Integer.MIN_VALUE;
    private static final int MAX = Integer.MAX_VALUE;

    public static void main(String[] args) {
        eachComparison();
        eachColumn();
        refuses();
        takesThePlace();
        Check.end();
    }

    private static FrameQueries sample() {
        return Use.withTable0(4, new Integer[][] {
            {-1, 0, 0}, {0, 1, 0}, {1, 2, 0}, {null, 3, 0}, {MIN, 4, 0}, {MAX, 5, 0},
        });
    }

    private static void kept(int op, int x, Integer... rows) {
        FrameQueries q = sample();
        String what = "filter(0, " + op + ", " + x + ")";
        Check.yes(what, q.filter(0, op, x));
        Use.runs(what, q, rows.length);
        Use.column(what, q, 1, rows);
    }

    private static void eachComparison() {
        kept(0, 0, 0, 4);
        kept(0, 1, 0, 1, 4);
        kept(0, MIN);
        kept(0, MAX, 0, 1, 2, 4);
        kept(1, 0, 1);
        kept(1, 77);
        kept(1, MIN, 4);
        kept(1, MAX, 5);
        kept(2, 0, 2, 5);
        kept(2, -1, 1, 2, 5);
        kept(2, MIN, 0, 1, 2, 5);
        kept(2, MAX);
        int[] anyNumbers = {0, 5, MIN, MAX};
        for (int x : anyNumbers) {
            kept(3, x, 3);
            kept(4, x, 0, 1, 2, 4, 5);
        }
    }

    private static void eachColumn() {
        FrameQueries q = Use.withTable0(4, new Integer[][] {{1, 2, 3}, {2, 3, 1}, {3, 1, 2}});
        for (int c = 0; c < 3; c++) {
            Check.yes("filter(" + c + ", 1, 1)", q.filter(c, 1, 1));
            Use.runs("column " + c, q, 1);
            Use.column("column " + c, q, c, 1);
        }
    }

    private static void refuses() {
        FrameQueries q = sample();
        q.filter(0, 1, 1);
        int[][] wrong = {{-1, 0}, {3, 0}, {6, 1}, {MIN, 0}, {MAX, 0}, {0, -1}, {0, 5}, {1, MIN}, {1, MAX}, {-1, -1}};
        for (int[] w : wrong) {
            Check.no("filter(" + w[0] + ", " + w[1] + ", 0)", q.filter(w[0], w[1], 0));
            Use.runs("the filter before stays", q, 1);
            Use.column("the filter before stays", q, 1, 2);
        }
    }

    private static void takesThePlace() {
        FrameQueries q = sample();
        q.filter(0, 2, 0);
        q.filter(1, 0, 2);
        Use.runs("the second filter alone", q, 2);
        Use.column("the second filter alone", q, 1, 0, 1);
        q.query();
        Use.runs("no filter", q, 6);
    }
}
