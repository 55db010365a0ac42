/** What the tests of single promises do again and again; null stands for NULL. */
final class Use {
    private Use() {
    }

    static FrameQueries withTable0(int frames, Integer[][] rows) {
        FrameQueries q = new FrameQueries(frames);
        fill(q, 0, rows);
        return q;
    }

    static void fill(FrameQueries q, int t, Integer[][] rows) {
        for (Integer[] row : rows) {
            int nulls = 0;
            int[] values = new int[3];
            for (int c = 0; c < 3; c++) {
                if (row[c] == null) {
                    nulls |= 1 << c;
                    values[c] = 77; // must not be seen again
                } else {
                    values[c] = row[c];
                }
            }
            Check.yes("insert into table " + t, q.insert(t, values[0], values[1], values[2], nulls));
        }
    }

    /** As many rows with the same value in all columns. */
    static void fillSame(FrameQueries q, int t, int count, int value) {
        for (int i = 0; i < count; i++) {
            Check.yes("insert into table " + t, q.insert(t, value, value, value, 0));
        }
    }

    /** As many rows 0, 1, 2 .. in column 0, with a column 1 that goes down and a column 2 of 0. */
    static void fillCounting(FrameQueries q, int t, int count) {
        for (int i = 0; i < count; i++) {
            Check.yes("insert into table " + t, q.insert(t, i, -i, 0, 0));
        }
    }

    static void runs(String what, FrameQueries q, int rows) {
        Check.due(what + ": run()", q.run(), rows);
    }

    static void counts(String what, FrameQueries q, int transfers, int held, int sorts) {
        Check.due(what + ": transfers()", q.transfers(), transfers);
        Check.due(what + ": held()", q.held(), held);
        Check.due(what + ": sorts()", q.sorts(), sorts);
    }

    /** The result has this column from its first row to its last. */
    static void column(String what, FrameQueries q, int c, Integer... want) {
        for (int r = 0; r < want.length; r++) {
            String cell = what + ": row " + r + ", column " + c;
            Check.due(cell + ", isNull", q.isNull(r, c) ? 1 : 0, want[r] == null ? 1 : 0);
            Check.due(cell + ", cell", q.cell(r, c), want[r] == null ? 0 : want[r]);
        }
        Check.no(what + ": a row behind the last is NULL", q.isNull(want.length, c));
        Check.due(what + ": a row behind the last", q.cell(want.length, c), 0);
    }

    static void noResult(String what, FrameQueries q) {
        counts(what, q, 0, 0, 0);
        for (int c = 0; c < 9; c++) {
            Check.due(what + ": cell(0, " + c + ")", q.cell(0, c), 0);
            Check.no(what + ": isNull(0, " + c + ")", q.isNull(0, c));
        }
    }
}
