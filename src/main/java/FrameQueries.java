/**
 * Runs queries over two small tables with few frames of memory, and counts the blocks that go to
 * and fro and the frames that are held. Every array is made with its object and used again by each
 * run, so that no call makes anything.
 */
public final class FrameQueries {
    public static final int NONE = -1;
    public static final int ROOM = -2;
    public static final int OVERFLOW = -3;

    /** How a step ends when no error ended it; the errors are negative. */
    private static final int DONE = 0;

    /** Less than every int and equal to itself, as the document orders it; no sum comes near it. */
    private static final long NULL = -(1L << 40);

    private static final int FEWEST_FRAMES = 3;
    private static final int MOST_FRAMES = 8;
    private static final int USUAL_FRAMES = 4;
    private static final int BLOCK = 4;

    private static final int TABLE_COLUMNS = 3;
    private static final int MOST_TABLE_ROWS = 24;
    private static final int MOST_JOINED_ROWS = 60;
    private static final int FIRST_RESULT_COLUMN = 6;
    private static final int COLUMNS = 9;
    /** Behind the columns that can be seen: table 0's row and table 1's in one number. */
    private static final int ORIGIN = 9;
    /** Above every row number, so that the origins are ordered by table 0's row first. */
    private static final int ORIGIN_STEP = 32;

    private static final int LESS = 0;
    private static final int EQUAL = 1;
    private static final int GREATER = 2;
    private static final int IS_NULL = 3;
    private static final int IS_NOT_NULL = 4;

    private static final int ROW_NUMBER = 0;
    private static final int RANK = 1;
    private static final int DENSE_RANK = 2;
    private static final int TILE = 3;
    private static final int LAG = 4;
    private static final int LEAD = 5;
    private static final int FIRST = 6;
    private static final int LAST = 7;
    private static final int SUM = 8;
    private static final int COUNT = 9;
    private static final int LEAST = 10;
    private static final int GREATEST = 11;

    private static final int NO_LOW = -10;
    private static final int NO_HIGH = 10;

    private final Rows[] tables;
    private final Query query;
    private final Runner runner;

    public FrameQueries(int frames) {
        int taken = isWithin(frames, FEWEST_FRAMES, MOST_FRAMES) ? frames : USUAL_FRAMES;
        tables = new Rows[] {
            new Rows(MOST_TABLE_ROWS, TABLE_COLUMNS), new Rows(MOST_TABLE_ROWS, TABLE_COLUMNS)
        };
        query = new Query();
        runner = new Runner(tables[0], tables[1], taken);
    }

    public boolean insert(int t, int a, int b, int c, int nulls) {
        if (!isTable(t) || !isWithin(nulls, 0, 7) || tables[t].isFull()) {
            return false;
        }
        Rows table = tables[t];
        int row = table.addRow();
        table.put(row, 0, (nulls & 1) != 0 ? NULL : a);
        table.put(row, 1, (nulls & 2) != 0 ? NULL : b);
        table.put(row, 2, (nulls & 4) != 0 ? NULL : c);
        return true;
    }

    public boolean clear(int t) {
        if (!isTable(t)) {
            return false;
        }
        tables[t].removeAll();
        return true;
    }

    public void query() {
        query.reset();
    }

    public boolean filter(int c, int op, int x) {
        if (!isTableColumn(c) || !isWithin(op, LESS, IS_NOT_NULL)) {
            return false;
        }
        query.filterColumn = c;
        query.filterOp = op;
        query.filterNumber = x;
        return true;
    }

    public boolean join(int x, int y) {
        if (!isTableColumn(x) || !isTableColumn(y)) {
            return false;
        }
        query.joinLeft = x;
        query.joinRight = y;
        return true;
    }

    public int window(int f, int arg, int n) {
        boolean known = isWithin(f, ROW_NUMBER, GREATEST);
        if (!known || !isJoinedColumn(arg) || !isWithin(n, 1, 9) || query.hasAllWindows()) {
            return NONE;
        }
        query.windows[query.windowCount].begin(f, arg, n);
        query.windowCount++;
        return query.windowCount - 1;
    }

    public boolean over(int w, int partition, int order, boolean down) {
        if (!query.hasWindow(w) || !isColumnOrNone(partition) || !isColumnOrNone(order)) {
            return false;
        }
        Window window = query.windows[w];
        if (window.range && order == NONE) {
            return false;
        }
        window.setKeys(partition, order, down);
        return true;
    }

    public boolean frame(int w, boolean range, int low, int high) {
        boolean bounded = isWithin(low, NO_LOW, 9) && isWithin(high, -9, NO_HIGH);
        if (!query.hasWindow(w) || !bounded) {
            return false;
        }
        Window window = query.windows[w];
        if (range && window.order == NONE) {
            return false;
        }
        window.range = range;
        window.low = low;
        window.high = high;
        return true;
    }

    public boolean order(int c, boolean down) {
        if (!isWithin(c, 0, COLUMNS - 1)) {
            return false;
        }
        query.order.removeAll();
        query.order.add(c, down);
        return true;
    }

    public int run() {
        return runner.execute(query);
    }

    public int cell(int r, int c) {
        long value = resultValue(r, c);
        return value == NULL ? 0 : (int) value;
    }

    public boolean isNull(int r, int c) {
        return isResultCell(r, c) && resultValue(r, c) == NULL;
    }

    public int transfers() {
        return runner.meter.transferred;
    }

    public int held() {
        return runner.meter.mostHeld;
    }

    public int sorts() {
        return runner.meter.sortsMade;
    }

    public int rows(int t) {
        return isTable(t) ? tables[t].count : NONE;
    }

    private boolean isResultCell(int r, int c) {
        return isWithin(r, 0, runner.list.count - 1) && isWithin(c, 0, COLUMNS - 1);
    }

    private long resultValue(int r, int c) {
        return isResultCell(r, c) ? runner.list.at(r, c) : NULL;
    }

    private static boolean isWithin(int number, int low, int high) {
        return number >= low && number <= high;
    }

    private static boolean isTable(int t) {
        return t == 0 || t == 1;
    }

    private static boolean isTableColumn(int c) {
        return isWithin(c, 0, TABLE_COLUMNS - 1);
    }

    private static boolean isJoinedColumn(int c) {
        return isWithin(c, 0, FIRST_RESULT_COLUMN - 1);
    }

    private static boolean isColumnOrNone(int c) {
        return c == NONE || isJoinedColumn(c);
    }

    private static int blocksOf(int rows) {
        return quotientUp(rows, BLOCK);
    }

    private static int quotientUp(int number, int divisor) {
        return (number + divisor - 1) / divisor;
    }

    /** Rows in an order that a sort changes without moving their values. */
    private static final class Rows {
        final int columns;
        final long[] values;
        final int[] slots;
        final int[] spare;
        int count;

        Rows(int most, int columns) {
            this.columns = columns;
            values = new long[most * columns];
            slots = new int[most];
            spare = new int[most];
        }

        boolean isFull() {
            return count >= slots.length;
        }

        void removeAll() {
            count = 0;
        }

        int addRow() {
            slots[count] = count;
            count++;
            return count - 1;
        }

        long at(int row, int column) {
            return values[slots[row] * columns + column];
        }

        void put(int row, int column, long value) {
            values[slots[row] * columns + column] = value;
        }

        void copyCells(int row, int firstColumn, Rows from, int fromRow, int cells) {
            for (int c = 0; c < cells; c++) {
                put(row, firstColumn + c, from.at(fromRow, c));
            }
        }

        void fillCells(int row, int firstColumn, int cells, long value) {
            for (int c = 0; c < cells; c++) {
                put(row, firstColumn + c, value);
            }
        }

        void sortBy(Keys keys) {
            for (int run = 1; run < count; run *= 2) {
                for (int start = 0; start < count; start += 2 * run) {
                    int middle = Math.min(start + run, count);
                    mergeRuns(start, middle, Math.min(middle + run, count), keys);
                }
                System.arraycopy(spare, 0, slots, 0, count);
            }
        }

        private void mergeRuns(int start, int middle, int end, Keys keys) {
            int left = start;
            int right = middle;
            for (int to = start; to < end; to++) {
                if (left < middle && (right >= end || isBefore(left, right, keys))) {
                    spare[to] = slots[left];
                    left++;
                } else {
                    spare[to] = slots[right];
                    right++;
                }
            }
        }

        private boolean isBefore(int row, int other, Keys keys) {
            for (int k = 0; k < keys.count; k++) {
                long own = at(row, keys.columns[k]);
                long theirs = at(other, keys.columns[k]);
                if (own != theirs) {
                    return keys.down[k] ? own > theirs : own < theirs;
                }
            }
            return at(row, ORIGIN) < at(other, ORIGIN);
        }
    }

    /** The columns by which rows are sorted, with their directions. */
    private static final class Keys {
        static final int MOST = 2;
        final int[] columns = new int[MOST];
        final boolean[] down = new boolean[MOST];
        int count;

        void removeAll() {
            count = 0;
        }

        void add(int column, boolean isDown) {
            if (count < MOST) {
                columns[count] = column;
                down[count] = isDown;
                count++;
            }
        }

        boolean beginWith(Keys others) {
            if (others.count > count) {
                return false;
            }
            for (int k = 0; k < others.count; k++) {
                if (columns[k] != others.columns[k] || down[k] != others.down[k]) {
                    return false;
                }
            }
            return true;
        }
    }

    private static final class Window {
        final Keys keys = new Keys();
        int function;
        int argument;
        int number = 1;
        int partition = NONE;
        int order = NONE;
        boolean down;
        boolean range;
        int low = NO_LOW;
        int high = NO_HIGH;

        void begin(int f, int arg, int n) {
            function = f;
            argument = arg;
            number = n;
            range = false;
            low = NO_LOW;
            high = NO_HIGH;
            setKeys(NONE, NONE, false);
        }

        void setKeys(int partitionColumn, int orderColumn, boolean isDown) {
            partition = partitionColumn;
            order = orderColumn;
            down = isDown;
            keys.removeAll();
            if (partition != NONE) {
                keys.add(partition, false);
            }
            if (order != NONE) {
                keys.add(order, down);
            }
        }

        boolean reaches(long distance) {
            return (low == NO_LOW || distance >= low) && (high == NO_HIGH || distance <= high);
        }
    }

    private static final class Query {
        final Window[] windows = new Window[] {new Window(), new Window(), new Window()};
        /** No keys when there is no order: any sort does then, but there must be one. */
        final Keys order = new Keys();
        int windowCount;
        int filterColumn;
        int filterOp = NONE;
        int filterNumber;
        int joinLeft = NONE;
        int joinRight = NONE;

        void reset() {
            windowCount = 0;
            filterOp = NONE;
            joinLeft = NONE;
            joinRight = NONE;
            order.removeAll();
        }

        boolean hasWindow(int w) {
            return isWithin(w, 0, windowCount - 1);
        }

        boolean hasAllWindows() {
            return windowCount >= windows.length;
        }

        boolean hasJoin() {
            return joinLeft != NONE && joinRight != NONE;
        }

        boolean keeps(Rows table, int row) {
            long value = table.at(row, filterColumn);
            switch (filterOp) {
                case LESS:
                    return value != NULL && value < filterNumber;
                case EQUAL:
                    return value != NULL && value == filterNumber;
                case GREATER:
                    return value != NULL && value > filterNumber;
                case IS_NULL:
                    return value == NULL;
                case IS_NOT_NULL:
                    return value != NULL;
                default:
                    return true;
            }
        }
    }

    /** Counts what the steps of a run transfer and hold. */
    private static final class Meter {
        final int frames;
        int transferred;
        int mostHeld;
        int sortsMade;

        Meter(int frames) {
            this.frames = frames;
        }

        void reset() {
            transferred = 0;
            mostHeld = 0;
            sortsMade = 0;
        }

        void addStep(int blocks, int framesHeld) {
            transferred += blocks;
            mostHeld = Math.max(mostHeld, framesHeld);
        }

        void addSort(int rowCount) {
            sortsMade++;
            int blocks = blocksOf(rowCount);
            int ways = frames - 1;
            addStep(2 * blocks, Math.min(frames, blocks));
            int runs = quotientUp(blocks, frames);
            // each pass leaves fewer runs, so there are fewer passes than blocks
            for (int pass = 1; pass < blocks && runs > 1; pass++) {
                addStep(2 * blocks, 1 + Math.min(runs, ways));
                runs = quotientUp(runs, ways);
            }
        }
    }

    /** Counts how two lists are matched by hashing; which rows pair does not depend on that. */
    private static final class Matcher {
        static final int LAST_LEVEL = 2;
        final Meter meter;
        final Rows left;
        final Rows right;
        final int parts;
        int leftColumn;
        int rightColumn;

        Matcher(Meter meter, Rows left, Rows right) {
            this.meter = meter;
            this.left = left;
            this.right = right;
            parts = meter.frames - 1;
        }

        void matchAll(int x, int y) {
            leftColumn = x;
            rightColumn = y;
            matchGroup(0, 0, left.count, right.count);
        }

        private void matchGroup(int level, int group, int leftRows, int rightRows) {
            if (leftRows == 0 || rightRows == 0) {
                return;
            }
            int p = blocksOf(leftRows);
            int q = blocksOf(rightRows);
            int room = meter.frames - 2;
            if (q <= room) {
                meter.addStep(q + p, q + 2);
            } else if (level >= LAST_LEVEL) {
                meter.addStep(q + p * quotientUp(q, room), meter.frames);
            } else {
                meter.addStep(p + q, meter.frames);
                for (int part = 0; part < parts; part++) {
                    matchPart(level + 1, group * parts + part);
                }
            }
        }

        private void matchPart(int level, int group) {
            int leftRows = rowsInGroup(left, leftColumn, level, group);
            int rightRows = rowsInGroup(right, rightColumn, level, group);
            meter.addStep(blocksOf(leftRows) + blocksOf(rightRows), meter.frames);
            matchGroup(level, group, leftRows, rightRows);
        }

        private int rowsInGroup(Rows list, int column, int level, int group) {
            int found = 0;
            for (int row = 0; row < list.count; row++) {
                long value = list.at(row, column);
                if (value != NULL && groupOf((int) value, level) == group) {
                    found++;
                }
            }
            return found;
        }

        /** The parts that a value was put into above the level, as the digits of one number. */
        private int groupOf(int value, int level) {
            int hash = (value ^ (value >>> 16)) * 73244475;
            int group = 0;
            for (int above = 0; above < level; above++) {
                group = group * parts + (hash >>> (3 + 7 * above)) % parts;
            }
            return group;
        }
    }

    /** Works a window out over one partition, the rows from start to before end. */
    private static final class Reckoner {
        final Rows list;
        Window window;
        int start;
        int end;
        int firstPeer;
        int peerGroups;
        int frameStart;
        int frameEnd;

        Reckoner(Rows list) {
            this.list = list;
        }

        int reckon(Window which, int from, int to, int column) {
            window = which;
            start = from;
            end = to;
            peerGroups = 0;
            for (int row = start; row < end; row++) {
                if (row == start || !arePeers(row - 1, row)) {
                    firstPeer = row;
                    peerGroups++;
                }
                if (which.function >= FIRST) {
                    findFrame(row);
                }
                long value = valueFor(row);
                if (value != NULL && value != (int) value) {
                    return OVERFLOW;
                }
                list.put(row, column, value);
            }
            return DONE;
        }

        private boolean arePeers(int row, int other) {
            int column = window.order;
            return column == NONE || list.at(row, column) == list.at(other, column);
        }

        /** The rows of a frame stand together, by RANGE too: the list is ordered for its window. */
        private void findFrame(int row) {
            frameStart = start;
            while (frameStart < end && !isInFrame(row, frameStart)) {
                frameStart++;
            }
            frameEnd = frameStart;
            while (frameEnd < end && isInFrame(row, frameEnd)) {
                frameEnd++;
            }
        }

        private boolean isInFrame(int row, int other) {
            if (!window.range || window.order == NONE) {
                return window.reaches(other - row);
            }
            long own = list.at(row, window.order);
            long theirs = list.at(other, window.order);
            if (own == NULL || theirs == NULL) {
                return own == theirs;
            }
            return window.reaches(window.down ? own - theirs : theirs - own);
        }

        private long valueFor(int row) {
            switch (window.function) {
                case ROW_NUMBER:
                    return row - start + 1;
                case RANK:
                    return firstPeer - start + 1;
                case DENSE_RANK:
                    return peerGroups;
                case TILE:
                    return tileOf(row - start, end - start, window.number);
                case LAG:
                    return argumentIn(row - window.number, start, end);
                case LEAD:
                    return argumentIn(row + window.number, start, end);
                case FIRST:
                    return argumentIn(frameStart, frameStart, frameEnd);
                case LAST:
                    return argumentIn(frameEnd - 1, frameStart, frameEnd);
                case SUM:
                    return sumOfFrame();
                case COUNT:
                    return countInFrame();
                case LEAST:
                    return leastInFrame();
                default:
                    return greatestInFrame();
            }
        }

        private static int tileOf(int index, int rowCount, int tiles) {
            int size = rowCount / tiles;
            int larger = rowCount % tiles;
            int inLarger = larger * (size + 1);
            if (size == 0 || index < inLarger) {
                return 1 + index / (size + 1);
            }
            return 1 + larger + (index - inLarger) / size;
        }

        private long argumentIn(int row, int from, int to) {
            return row >= from && row < to ? list.at(row, window.argument) : NULL;
        }

        private long sumOfFrame() {
            long sum = 0;
            boolean found = false;
            for (int row = frameStart; row < frameEnd; row++) {
                long value = list.at(row, window.argument);
                if (value != NULL) {
                    sum += value;
                    found = true;
                }
            }
            return found ? sum : NULL;
        }

        private int countInFrame() {
            int found = 0;
            for (int row = frameStart; row < frameEnd; row++) {
                if (list.at(row, window.argument) != NULL) {
                    found++;
                }
            }
            return found;
        }

        private long leastInFrame() {
            long least = NULL;
            for (int row = frameStart; row < frameEnd; row++) {
                long value = list.at(row, window.argument);
                if (value != NULL && (least == NULL || value < least)) {
                    least = value;
                }
            }
            return least;
        }

        private long greatestInFrame() {
            long greatest = NULL;
            for (int row = frameStart; row < frameEnd; row++) {
                greatest = Math.max(greatest, list.at(row, window.argument));
            }
            return greatest;
        }
    }

    /** Takes a query through its steps; its list is the result when they are done. */
    private static final class Runner {
        final Meter meter;
        final Rows list = new Rows(MOST_JOINED_ROWS, ORIGIN + 1);
        private final Rows left;
        private final Rows right;
        private final Rows kept = new Rows(MOST_TABLE_ROWS, TABLE_COLUMNS + 1);
        private final Matcher matcher;
        private final Reckoner reckoner;
        /** What the list was last sorted by; null before the first sort of a run. */
        private Keys ordered;

        Runner(Rows left, Rows right, int frames) {
            this.left = left;
            this.right = right;
            meter = new Meter(frames);
            matcher = new Matcher(meter, kept, right);
            reckoner = new Reckoner(list);
        }

        int execute(Query query) {
            reset();
            keepRows(query);
            int end = query.hasJoin() ? joinKept(query) : listKept();
            if (end == DONE) {
                end = workWindowsOut(query);
            }
            if (end != DONE) {
                reset();
                return end;
            }
            bringInOrder(query.order);
            return list.count;
        }

        private void reset() {
            meter.reset();
            list.removeAll();
            kept.removeAll();
            ordered = null;
        }

        private void keepRows(Query query) {
            for (int row = 0; row < left.count; row++) {
                if (query.keeps(left, row)) {
                    int to = kept.addRow();
                    kept.copyCells(to, 0, left, row, TABLE_COLUMNS);
                    kept.put(to, TABLE_COLUMNS, row);
                }
            }
            meter.addStep(blocksOf(left.count) + blocksOf(kept.count), left.count == 0 ? 0 : 2);
        }

        private int listKept() {
            for (int row = 0; row < kept.count; row++) {
                addToList(row, NONE);
            }
            return DONE;
        }

        private int joinKept(Query query) {
            for (int row = 0; row < kept.count; row++) {
                for (int other = 0; other < right.count; other++) {
                    long value = kept.at(row, query.joinLeft);
                    if (value != NULL && value == right.at(other, query.joinRight)) {
                        if (list.isFull()) {
                            return ROOM;
                        }
                        addToList(row, other);
                    }
                }
            }
            matcher.matchAll(query.joinLeft, query.joinRight);
            meter.addStep(blocksOf(list.count), 0);
            return DONE;
        }

        private void addToList(int keptRow, int rightRow) {
            int to = list.addRow();
            list.fillCells(to, 0, COLUMNS, NULL);
            list.copyCells(to, 0, kept, keptRow, TABLE_COLUMNS);
            if (rightRow != NONE) {
                list.copyCells(to, TABLE_COLUMNS, right, rightRow, TABLE_COLUMNS);
            }
            list.put(to, ORIGIN, kept.at(keptRow, TABLE_COLUMNS) * ORIGIN_STEP + rightRow);
        }

        private int workWindowsOut(Query query) {
            for (int keyCount = Keys.MOST; keyCount >= 0; keyCount--) {
                for (int w = 0; w < query.windowCount; w++) {
                    Window window = query.windows[w];
                    if (window.keys.count == keyCount) {
                        bringInOrder(window.keys);
                        int end = workOut(window, FIRST_RESULT_COLUMN + w);
                        if (end != DONE) {
                            return end;
                        }
                    }
                }
            }
            return DONE;
        }

        private void bringInOrder(Keys keys) {
            if (ordered == null || !ordered.beginWith(keys)) {
                list.sortBy(keys);
                meter.addSort(list.count);
                ordered = keys;
            }
        }

        private int workOut(Window window, int column) {
            int largest = 0;
            int start = 0;
            for (int next = 1; next <= list.count; next++) {
                if (next == list.count || !arePartners(window, start, next)) {
                    int size = next - start;
                    if (size > BLOCK * (meter.frames - 2)) {
                        return ROOM;
                    }
                    int end = reckoner.reckon(window, start, next, column);
                    if (end != DONE) {
                        return end;
                    }
                    largest = Math.max(largest, size);
                    start = next;
                }
            }
            meter.addStep(2 * blocksOf(list.count), largest == 0 ? 0 : 2 + blocksOf(largest));
            return DONE;
        }

        private boolean arePartners(Window window, int row, int other) {
            int column = window.partition;
            return column == NONE || list.at(row, column) == list.at(other, column);
        }
    }
}
