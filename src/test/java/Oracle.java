import java.math.BigInteger;
import java.util.ArrayList;
import java.util.Arrays;
import java.util.Comparator;
import java.util.LinkedHashMap;
import java.util.List;
import java.util.Map;
import java.util.Objects;
import java.util.TreeSet;
import java.util.stream.Collectors;

/**
 * The document once more, written for plainness alone and apart from the program: lists are really
 * parted, cut into runs and merged, and blocks are counted as they go. Tests compare the two.
 */
final class Oracle {
    private static final int DONE = 0;
    private static final Comparator<Integer> NULL_FIRST = Comparator.nullsFirst(Comparator.naturalOrder());

    /** A row on its way: nine columns, null for NULL, and its origin. */
    private static final class Row {
        final Integer[] columns = new Integer[9];
        final int first;
        final int second;

        Row(int first, int second) {
            this.first = first;
            this.second = second;
        }
    }

    private static final class Key {
        final int column;
        final boolean down;

        Key(int column, boolean down) {
            this.column = column;
            this.down = down;
        }

        boolean same(Key other) {
            return column == other.column && down == other.down;
        }
    }

    private static final class Window {
        int f;
        int arg;
        int n;
        int partition = -1;
        int order = -1;
        boolean down;
        boolean range;
        int low = -10;
        int high = 10;

        List<Key> keys() {
            List<Key> keys = new ArrayList<>();
            if (partition >= 0) {
                keys.add(new Key(partition, false));
            }
            if (order >= 0) {
                keys.add(new Key(order, down));
            }
            return keys;
        }
    }

    private final int m;
    private final List<List<Integer[]>> tables = List.of(new ArrayList<>(), new ArrayList<>());
    private int[] filter;
    private int[] join;
    private List<Window> windows = new ArrayList<>();
    private Key order;

    private List<Row> list;
    private List<Key> ordered;
    private List<Row> result;
    private int transfers;
    private int held;
    private int sorts;

    Oracle(int frames) {
        m = frames >= 3 && frames <= 8 ? frames : 4;
    }

    boolean insert(int t, int a, int b, int c, int nulls) {
        if (t != 0 && t != 1 || nulls < 0 || nulls > 7 || tables.get(t).size() == 24) {
            return false;
        }
        Integer[] row = {a, b, c};
        for (int i = 0; i < 3; i++) {
            if ((nulls >> i & 1) == 1) {
                row[i] = null;
            }
        }
        tables.get(t).add(row);
        return true;
    }

    boolean clear(int t) {
        if (t != 0 && t != 1) {
            return false;
        }
        tables.get(t).clear();
        return true;
    }

    void query() {
        filter = null;
        join = null;
        windows = new ArrayList<>();
        order = null;
    }

    boolean filter(int c, int op, int x) {
        if (c < 0 || c > 2 || op < 0 || op > 4) {
            return false;
        }
        filter = new int[] {c, op, x};
        return true;
    }

    boolean join(int x, int y) {
        if (x < 0 || x > 2 || y < 0 || y > 2) {
            return false;
        }
        join = new int[] {x, y};
        return true;
    }

    int window(int f, int arg, int n) {
        if (f < 0 || f > 11 || arg < 0 || arg > 5 || n < 1 || n > 9 || windows.size() == 3) {
            return -1;
        }
        Window w = new Window();
        w.f = f;
        w.arg = arg;
        w.n = n;
        windows.add(w);
        return windows.size() - 1;
    }

    boolean over(int w, int partition, int orderColumn, boolean down) {
        if (w < 0 || w >= windows.size() || partition < -1 || partition > 5 || orderColumn < -1 || orderColumn > 5) {
            return false;
        }
        Window window = windows.get(w);
        if (window.range && orderColumn == -1) {
            return false;
        }
        window.partition = partition;
        window.order = orderColumn;
        window.down = down;
        return true;
    }

    boolean frame(int w, boolean range, int low, int high) {
        if (w < 0 || w >= windows.size() || low < -10 || low > 9 || high < -9 || high > 10) {
            return false;
        }
        Window window = windows.get(w);
        if (range && window.order == -1) {
            return false;
        }
        window.range = range;
        window.low = low;
        window.high = high;
        return true;
    }

    boolean order(int c, boolean down) {
        if (c < 0 || c > 8) {
            return false;
        }
        order = new Key(c, down);
        return true;
    }

    int run() {
        transfers = 0;
        held = 0;
        sorts = 0;
        result = null;
        ordered = null;
        int end = steps();
        if (end != DONE) {
            transfers = 0;
            held = 0;
            sorts = 0;
            return end;
        }
        result = list;
        return result.size();
    }

    int cell(int r, int c) {
        return hasCell(r, c) && result.get(r).columns[c] != null ? result.get(r).columns[c] : 0;
    }

    boolean isNull(int r, int c) {
        return hasCell(r, c) && result.get(r).columns[c] == null;
    }

    int transfers() {
        return transfers;
    }

    int held() {
        return held;
    }

    int sorts() {
        return sorts;
    }

    int rows(int t) {
        return t == 0 || t == 1 ? tables.get(t).size() : -1;
    }

    private boolean hasCell(int r, int c) {
        return result != null && r >= 0 && r < result.size() && c >= 0 && c < 9;
    }

    private static int up(int number, int divisor) {
        return number / divisor + (number % divisor == 0 ? 0 : 1);
    }

    private static int blocks(int rows) {
        return up(rows, 4);
    }

    private void step(int blocksMoved, int framesHeld) {
        transfers += blocksMoved;
        if (framesHeld > held) {
            held = framesHeld;
        }
    }

    private int steps() {
        filterStep();
        if (join != null && joinStep() != DONE) {
            return -2;
        }
        List<Integer> turns = new ArrayList<>();
        for (int w = 0; w < windows.size(); w++) {
            turns.add(w);
        }
        turns.sort(Comparator.<Integer>comparingInt(w -> -windows.get(w).keys().size()).thenComparingInt(w -> w));
        for (int w : turns) {
            int end = windowStep(w);
            if (end != DONE) {
                return end;
            }
        }
        if (order != null) {
            if (ordered == null || ordered.isEmpty() || !ordered.get(0).same(order)) {
                sort(List.of(order));
            }
        } else if (ordered == null) {
            sort(List.of());
        }
        return DONE;
    }

    private void filterStep() {
        list = new ArrayList<>();
        List<Integer[]> table = tables.get(0);
        for (int i = 0; i < table.size(); i++) {
            if (filter == null || holds(table.get(i)[filter[0]])) {
                Row row = new Row(i, -1);
                System.arraycopy(table.get(i), 0, row.columns, 0, 3);
                list.add(row);
            }
        }
        if (!table.isEmpty()) {
            step(blocks(table.size()) + blocks(list.size()), 2);
        }
    }

    private boolean holds(Integer value) {
        if (filter[1] == 3) {
            return value == null;
        }
        if (value == null) {
            return false;
        }
        int sign = Integer.compare(value, filter[2]);
        return filter[1] == 4 || filter[1] == sign + 1;
    }

    private int joinStep() {
        List<Integer[]> others = tables.get(1);
        List<Row> joined = new ArrayList<>();
        for (Row row : list) {
            for (int u = 0; u < others.size(); u++) {
                Integer value = row.columns[join[0]];
                if (value != null && value.equals(others.get(u)[join[1]])) {
                    Row pair = new Row(row.first, u);
                    System.arraycopy(row.columns, 0, pair.columns, 0, 3);
                    System.arraycopy(others.get(u), 0, pair.columns, 3, 3);
                    joined.add(pair);
                }
            }
        }
        if (joined.size() > 60) {
            return -2;
        }
        if (!list.isEmpty() && !others.isEmpty()) {
            List<Integer> p = list.stream().map(row -> row.columns[join[0]]).collect(Collectors.toList());
            List<Integer> q = others.stream().map(row -> row[join[1]]).collect(Collectors.toList());
            match(p, q, 0);
            step(blocks(joined.size()), 0);
        }
        list = joined;
        return DONE;
    }

    private void match(List<Integer> p, List<Integer> q, int level) {
        int pBlocks = blocks(p.size());
        int qBlocks = blocks(q.size());
        if (qBlocks <= m - 2) {
            step(qBlocks + pBlocks, qBlocks + 2);
            return;
        }
        if (level == 2) {
            step(qBlocks, m);
            for (int begun = 0; begun < qBlocks; begun += m - 2) {
                step(pBlocks, m);
            }
            return;
        }
        step(pBlocks + qBlocks, m);
        List<List<Integer>> ps = part(p, level);
        List<List<Integer>> qs = part(q, level);
        for (int i = 0; i < m - 1; i++) {
            step(blocks(ps.get(i).size()), m);
            step(blocks(qs.get(i).size()), m);
        }
        for (int i = 0; i < m - 1; i++) {
            if (!ps.get(i).isEmpty() && !qs.get(i).isEmpty()) {
                match(ps.get(i), qs.get(i), level + 1);
            }
        }
    }

    private List<List<Integer>> part(List<Integer> values, int level) {
        List<List<Integer>> parts = new ArrayList<>();
        for (int i = 0; i < m - 1; i++) {
            parts.add(new ArrayList<>());
        }
        for (Integer value : values) {
            if (value != null) {
                long unsigned = value & 0xffffffffL;
                long mixed = unsigned ^ (unsigned >> 16);
                long h = BigInteger.valueOf(mixed).multiply(BigInteger.valueOf(73244475)).mod(BigInteger.ONE.shiftLeft(32)).longValueExact();
                parts.get((int) ((h >> (3 + 7 * level)) % (m - 1))).add(value);
            }
        }
        return parts;
    }

    private Comparator<Row> comparing(List<Key> keys) {
        Comparator<Row> comparator = (a, b) -> 0;
        for (Key key : keys) {
            Comparator<Row> byKey = Comparator.comparing(row -> row.columns[key.column], NULL_FIRST);
            comparator = comparator.thenComparing(key.down ? byKey.reversed() : byKey);
        }
        return comparator.thenComparingInt(row -> row.first).thenComparingInt(row -> row.second);
    }

    /** Cuts the list into runs and merges them, as the document's machine would. */
    private void sort(List<Key> keys) {
        sorts++;
        ordered = keys;
        if (list.isEmpty()) {
            return;
        }
        int n = blocks(list.size());
        List<List<Row>> runs = new ArrayList<>();
        int mostInRun = 0;
        for (int from = 0; from < list.size(); from += 4 * m) {
            List<Row> run = new ArrayList<>(list.subList(from, Math.min(from + 4 * m, list.size())));
            run.sort(comparing(keys));
            mostInRun = Math.max(mostInRun, blocks(run.size()));
            runs.add(run);
        }
        step(2 * n, mostInRun);
        while (runs.size() > 1) {
            List<List<Row>> merged = new ArrayList<>();
            int most = 0;
            for (int from = 0; from < runs.size(); from += m - 1) {
                List<List<Row>> some = runs.subList(from, Math.min(from + m - 1, runs.size()));
                most = Math.max(most, some.size());
                merged.add(merge(some, comparing(keys)));
            }
            step(2 * n, 1 + most);
            runs = merged;
        }
        list = runs.get(0);
    }

    private static List<Row> merge(List<List<Row>> runs, Comparator<Row> comparator) {
        List<List<Row>> rests = new ArrayList<>();
        runs.forEach(run -> rests.add(new ArrayList<>(run)));
        List<Row> merged = new ArrayList<>();
        while (true) {
            List<Row> best = null;
            for (List<Row> rest : rests) {
                if (!rest.isEmpty() && (best == null || comparator.compare(rest.get(0), best.get(0)) < 0)) {
                    best = rest;
                }
            }
            if (best == null) {
                return merged;
            }
            merged.add(best.remove(0));
        }
    }

    private boolean isOrderedFor(List<Key> keys) {
        if (ordered == null || keys.size() > ordered.size()) {
            return false;
        }
        for (int i = 0; i < keys.size(); i++) {
            if (!keys.get(i).same(ordered.get(i))) {
                return false;
            }
        }
        return true;
    }

    private int windowStep(int number) {
        Window w = windows.get(number);
        if (!isOrderedFor(w.keys())) {
            sort(w.keys());
        }
        Map<Object, List<Row>> partitions = new LinkedHashMap<>();
        for (Row row : list) {
            Object part = w.partition < 0 ? "all" : row.columns[w.partition] == null ? "NULL" : row.columns[w.partition];
            partitions.computeIfAbsent(part, key -> new ArrayList<>()).add(row);
        }
        int largest = 0;
        for (List<Row> partition : partitions.values()) {
            if (partition.size() > 4 * (m - 2)) {
                return -2;
            }
            largest = Math.max(largest, partition.size());
            for (int i = 0; i < partition.size(); i++) {
                BigInteger value = value(w, partition, i);
                if (value != null && value.bitLength() > 31) {
                    return -3;
                }
                partition.get(i).columns[6 + number] = value == null ? null : Integer.valueOf(value.intValue());
            }
        }
        if (!list.isEmpty()) {
            step(2 * blocks(list.size()), 2 + blocks(largest));
        }
        return DONE;
    }

    private static BigInteger big(Integer value) {
        return value == null ? null : BigInteger.valueOf(value);
    }

    private BigInteger value(Window w, List<Row> rows, int i) {
        int firstPeer = 0;
        while (!peers(w, rows.get(firstPeer), rows.get(i))) {
            firstPeer++;
        }
        switch (w.f) {
            case 0:
                return big(i + 1);
            case 1:
                return big(firstPeer + 1);
            case 2:
                TreeSet<Integer> values = new TreeSet<>(NULL_FIRST);
                rows.subList(0, firstPeer).forEach(row -> values.add(row.columns[w.order]));
                return big(values.size() + 1);
            case 3:
                return big(tile(rows.size(), w.n, i));
            case 4:
                return i - w.n >= 0 ? big(rows.get(i - w.n).columns[w.arg]) : null;
            case 5:
                return i + w.n < rows.size() ? big(rows.get(i + w.n).columns[w.arg]) : null;
            default:
                return overFrame(w, frameOf(w, rows, i));
        }
    }

    private static boolean peers(Window w, Row a, Row b) {
        return w.order < 0 || Objects.equals(a.columns[w.order], b.columns[w.order]);
    }

    private static int tile(int c, int n, int i) {
        int[] tiles = new int[c];
        int at = 0;
        for (int t = 0; t < n; t++) {
            int size = c / n + (t < c % n ? 1 : 0);
            Arrays.fill(tiles, at, at + size, t + 1);
            at += size;
        }
        return tiles[i];
    }

    private static List<Row> frameOf(Window w, List<Row> rows, int i) {
        List<Row> frame = new ArrayList<>();
        for (int k = 0; k < rows.size(); k++) {
            if (w.range ? inRange(w, rows.get(i), rows.get(k)) : bounds(w, BigInteger.valueOf(k - i))) {
                frame.add(rows.get(k));
            }
        }
        return frame;
    }

    private static boolean inRange(Window w, Row own, Row other) {
        BigInteger mine = big(own.columns[w.order]);
        BigInteger theirs = big(other.columns[w.order]);
        if (mine == null) {
            return theirs == null;
        }
        return theirs != null && bounds(w, w.down ? mine.subtract(theirs) : theirs.subtract(mine));
    }

    private static boolean bounds(Window w, BigInteger distance) {
        return (w.low == -10 || distance.compareTo(BigInteger.valueOf(w.low)) >= 0)
            && (w.high == 10 || distance.compareTo(BigInteger.valueOf(w.high)) <= 0);
    }

    private static BigInteger overFrame(Window w, List<Row> frame) {
        if (w.f == 6 || w.f == 7) {
            return frame.isEmpty() ? null : big(frame.get(w.f == 6 ? 0 : frame.size() - 1).columns[w.arg]);
        }
        List<BigInteger> values = frame.stream().map(row -> big(row.columns[w.arg])).filter(Objects::nonNull).collect(Collectors.toList());
        if (w.f == 9) {
            return BigInteger.valueOf(values.size());
        }
        if (values.isEmpty()) {
            return null;
        }
        switch (w.f) {
            case 8:
                return values.stream().reduce(BigInteger.ZERO, BigInteger::add);
            case 10:
                return values.stream().min(Comparator.naturalOrder()).get();
            default:
                return values.stream().max(Comparator.naturalOrder()).get();
        }
    }
}
