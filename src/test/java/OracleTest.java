import java.util.Random;

/**
 * Long runs of calls, the same ones on the program and on the oracle, drawn from fixed seeds. All
 * cells are read after each run, more calls than the 512 of the document: the program counts none.
 */
public final class OracleTest {
    private static final int OBJECTS = 3000;
    private static final int CALLS = 400;
    private static final int[] EXTREMES = {Integer.MIN_VALUE, Integer.MAX_VALUE, Integer.MIN_VALUE + 1, Integer.MAX_VALUE - 1, 1 << 30, -1 << 30};

    private final Random random;
    private final FrameQueries program;
    private final Oracle oracle;
    private final int spread;
    private final int extremeEvery;
    private final StringBuilder told = new StringBuilder();

    private OracleTest(int seed) {
        random = new Random(seed);
        int frames = random.nextInt(12) == 0 ? random.nextInt(40) - 20 : 3 + random.nextInt(6);
        int[] spreads = {2, 3, 5, 12, 40, 1000};
        spread = spreads[random.nextInt(spreads.length)];
        extremeEvery = random.nextInt(4) == 0 ? 3 : 60;
        program = new FrameQueries(frames);
        oracle = new Oracle(frames);
        told.append("seed ").append(seed).append(", frames ").append(frames);
    }

    public static void main(String[] args) {
        int[] endings = new int[4];
        for (int seed = 0; seed < OBJECTS && Check.allAreDue(); seed++) {
            OracleTest test = new OracleTest(seed);
            for (int call = 0; call < CALLS && Check.allAreDue(); call++) {
                int end = test.callOnce();
                endings[end < 0 ? -end : 0]++;
            }
        }
        System.out.println("runs that ended with ROOM: " + endings[2] + ", with OVERFLOW: " + endings[3]);
        Check.yes("runs that ended with ROOM were among them", endings[2] > 1000);
        Check.yes("runs that ended with OVERFLOW were among them", endings[3] > 200);
        Check.end();
    }

    /** A number from low to high, or now and then one that is just or far outside. */
    private int about(int low, int high) {
        int kind = random.nextInt(40);
        if (kind == 0) {
            return low - 1;
        }
        if (kind == 1) {
            return high + 1;
        }
        if (kind == 2) {
            return random.nextBoolean() ? Integer.MIN_VALUE : Integer.MAX_VALUE;
        }
        return low + random.nextInt(high - low + 1);
    }

    private int value() {
        return random.nextInt(extremeEvery) == 0 ? EXTREMES[random.nextInt(EXTREMES.length)] : random.nextInt(spread) - spread / 3;
    }

    private int nulls() {
        return random.nextInt(3) == 0 ? about(0, 7) : 0;
    }

    private void same(String call, long got, long want) {
        told.append("\n  ").append(call).append(" -> ").append(want);
        compare(call, got, want);
    }

    /** The calls so far are told only where an answer is wrong: there are millions of answers. */
    private void compare(String call, long got, long want) {
        Check.due(got == want ? call : told + "\n" + call, got, want);
    }

    private void same(String call, boolean got, boolean want) {
        same(call, got ? 1 : 0, want ? 1 : 0);
    }

    private int callOnce() {
        int kind = random.nextInt(100);
        if (kind < 32) {
            int t = about(0, 1);
            int a = value();
            int b = value();
            int c = value();
            int nulls = nulls();
            same("insert(" + t + ", " + a + ", " + b + ", " + c + ", " + nulls + ")", program.insert(t, a, b, c, nulls), oracle.insert(t, a, b, c, nulls));
        } else if (kind < 34) {
            int t = about(0, 1);
            same("clear(" + t + ")", program.clear(t), oracle.clear(t));
        } else if (kind < 43) {
            told.append("\n  query()");
            program.query();
            oracle.query();
        } else if (kind < 80) {
            addToQuery(kind);
        } else {
            return runBoth();
        }
        return 0;
    }

    private void addToQuery(int kind) {
        boolean flag = random.nextBoolean();
        if (kind < 46) {
            int c = about(0, 2);
            int op = about(0, 4);
            int x = value();
            same("filter(" + c + ", " + op + ", " + x + ")", program.filter(c, op, x), oracle.filter(c, op, x));
        } else if (kind < 51) {
            int x = about(0, 2);
            int y = about(0, 2);
            same("join(" + x + ", " + y + ")", program.join(x, y), oracle.join(x, y));
        } else if (kind < 62) {
            int f = about(0, 11);
            int arg = about(0, 5);
            int n = about(1, 9);
            same("window(" + f + ", " + arg + ", " + n + ")", program.window(f, arg, n), oracle.window(f, arg, n));
        } else if (kind < 70) {
            int w = about(0, 2);
            int partition = about(-1, 5);
            int order = about(-1, 5);
            same("over(" + w + ", " + partition + ", " + order + ", " + flag + ")", program.over(w, partition, order, flag), oracle.over(w, partition, order, flag));
        } else if (kind < 77) {
            int w = about(0, 2);
            int low = about(-10, 9);
            int high = about(-9, 10);
            same("frame(" + w + ", " + flag + ", " + low + ", " + high + ")", program.frame(w, flag, low, high), oracle.frame(w, flag, low, high));
        } else {
            int c = about(0, 8);
            same("order(" + c + ", " + flag + ")", program.order(c, flag), oracle.order(c, flag));
        }
    }

    private int runBoth() {
        int end = program.run();
        same("run()", end, oracle.run());
        same("transfers()", program.transfers(), oracle.transfers());
        same("held()", program.held(), oracle.held());
        same("sorts()", program.sorts(), oracle.sorts());
        same("rows(0)", program.rows(0), oracle.rows(0));
        same("rows(1)", program.rows(1), oracle.rows(1));
        for (int r = -1; r <= Math.max(end, 0); r++) {
            for (int c = -1; c <= 9; c++) {
                compare("cell of row " + r + " in column " + c, program.cell(r, c), oracle.cell(r, c));
                compare("isNull of row " + r + " in column " + c, program.isNull(r, c) ? 1 : 0, oracle.isNull(r, c) ? 1 : 0);
            }
        }
        return end;
    }
}
