/**
 * A sorter of pairs with little memory: what is fed fills the work area, full ones are sorted and
 * spilled as runs, and behind sealing all runs are merged, row by row or group by group, stably by
 * keys.
 */
public final class ExternalSorter {
    public static final int OK = 0;
    public static final int ROW = 1;
    public static final int GROUP = 2;
    public static final int END = -1;
    public static final int FULL = -2;
    public static final int SEALED = -3;
    public static final int NOT_SEALED = -4;

    private static final int MOST_WORK = 64;
    private static final int MOST_SPILL = 2000;
    private static final int MOST_FED_AT_ONCE = 200;

    // Each pass halves the runs, and there are at most 2001 of them (W = 1, S = 2000).
    private static final int MOST_PASSES = 11;

    private static final int HOW_MANY = 0;
    private static final int SUM = 1;
    private static final int LEAST = 2;
    private static final int GREATEST = 3;
    private static final int GROUP_ANSWERS = 4;

    private static final int LIST_PAIRS = 0;
    private static final int SPILLED_PAIRS = 1;
    private static final int CONSUMED_ROWS = 2;
    private static final int COUNT_ANSWERS = 4;

    // At least 1, so it may divide.
    private final int workSize;
    private final int room;

    // The list, in the order of feeding: it is never moved, so a pair's place tells its run.
    private final int[] keys;
    private final int[] values;

    // Places in the list. Each run's own stretch is sorted first; behind sealing all of it is.
    private final int[] order;
    private final int[] merged;

    // Behind sealing: how many rows of each run are not consumed.
    private final int[] rowsLeft;

    private int fed;
    private int spilledRuns;
    private boolean sealed;
    private int consumed;
    private int openRuns;

    // All of these are 0 where the document asks for 0, so no call need know what kind is current.
    private int currentKey;
    private int currentValue;
    private final int[] currentGroup;

    public ExternalSorter(int w, int s) {
        workSize = Math.max(1, Math.min(MOST_WORK, w));
        int spillSize = Math.max(1, Math.min(MOST_SPILL, s));
        int mostRuns = spillSize / workSize + 1;
        room = workSize * mostRuns;
        keys = new int[room];
        values = new int[room];
        order = new int[room];
        merged = new int[room];
        rowsLeft = new int[mostRuns];
        currentGroup = new int[GROUP_ANSWERS];
    }

    public void reset() {
        fed = 0;
        spilledRuns = 0;
        sealed = false;
        consumed = 0;
        openRuns = 0;
        clearCurrent();
    }

    public int feed(int key, int value) {
        if (sealed) {
            return SEALED;
        }
        if (fed >= room) {
            return FULL;
        }
        append(key, value);
        return OK;
    }

    public int feedMany(int key, int step, int value, int n) throws IllegalArgumentException {
        if (n < 0 || n > MOST_FED_AT_ONCE) {
            throw new IllegalArgumentException("n is not in 0 .. 200");
        }
        if (sealed) {
            return SEALED;
        }
        int coming = Math.min(n, room - fed);
        for (int k = 0; k < coming; k++) {
            append(key + k * step, value + k);
        }
        return coming;
    }

    public int seal() {
        if (sealed) {
            return SEALED;
        }
        sortWorkArea();
        countRowsOfRuns();
        mergeRuns();
        sealed = true;
        return OK;
    }

    public int nextRow() {
        if (!sealed) {
            return NOT_SEALED;
        }
        clearCurrent();
        if (consumed >= fed) {
            return END;
        }
        currentKey = keyOfRow(consumed);
        currentValue = valueOfRow(consumed);
        takeFromRun(consumed);
        consumed++;
        return ROW;
    }

    public int nextGroup() {
        if (!sealed) {
            return NOT_SEALED;
        }
        clearCurrent();
        if (consumed >= fed) {
            return END;
        }
        currentKey = keyOfRow(consumed);
        while (consumed < fed && keyOfRow(consumed) == currentKey) {
            addToGroup(valueOfRow(consumed));
            takeFromRun(consumed);
            consumed++;
        }
        return GROUP;
    }

    public int skipTo(int key) {
        if (!sealed) {
            return NOT_SEALED;
        }
        clearCurrent();
        int before = consumed;
        while (consumed < fed && keyOfRow(consumed) < key) {
            takeFromRun(consumed);
            consumed++;
        }
        return consumed - before;
    }

    public int key() {
        return currentKey;
    }

    public int value() {
        return currentValue;
    }

    public int group(int what) throws IllegalArgumentException {
        if (what < 0 || what >= GROUP_ANSWERS) {
            throw new IllegalArgumentException("what is not in 0 .. 3");
        }
        return at(currentGroup, what);
    }

    public int count(int what) throws IllegalArgumentException {
        if (what < 0 || what >= COUNT_ANSWERS) {
            throw new IllegalArgumentException("what is not in 0 .. 3");
        }
        switch (what) {
            case LIST_PAIRS:
                return fed;
            case SPILLED_PAIRS:
                return spilledPairs();
            case CONSUMED_ROWS:
                return consumed;
            default:
                return sealed ? openRuns : spilledRuns;
        }
    }

    private void append(int key, int value) {
        if (fed - spilledPairs() >= workSize) {
            sortWorkArea();
            spilledRuns++;
        }
        put(keys, fed, key);
        put(values, fed, value);
        put(order, fed, fed);
        fed++;
    }

    private int spilledPairs() {
        return spilledRuns * workSize;
    }

    private void sortWorkArea() {
        int first = spilledPairs();
        for (int row = first + 1; row < fed; row++) {
            insertRow(first, row);
        }
    }

    private void insertRow(int first, int row) {
        int place = at(order, row);
        int placeKey = at(keys, place);
        int to = row;
        // Only greater keys are passed, so that pairs of one key stay in the order of feeding.
        while (to > first && keyOfRow(to - 1) > placeKey) {
            put(order, to, at(order, to - 1));
            to--;
        }
        put(order, to, place);
    }

    private void countRowsOfRuns() {
        openRuns = fed == 0 ? 0 : spilledRuns + 1;
        for (int run = 0; run < openRuns; run++) {
            put(rowsLeft, run, Math.min(workSize, fed - run * workSize));
        }
    }

    private void mergeRuns() {
        int width = workSize;
        for (int pass = 0; pass < MOST_PASSES && width < fed; pass++) {
            mergeNeighbours(width);
            width += width;
        }
    }

    private void mergeNeighbours(int width) {
        // No width is below 1: it is looked at so that the loop's end can be seen from here.
        for (int low = 0; width > 0 && low + width < fed; low += width + width) {
            mergeStretches(low, low + width, Math.min(low + width + width, fed));
        }
    }

    private void mergeStretches(int low, int middle, int high) {
        int left = low;
        int right = middle;
        for (int to = low; to < high; to++) {
            // Of equal keys the left one was fed earlier.
            if (right >= high || (left < middle && keyOfRow(left) <= keyOfRow(right))) {
                put(merged, to, at(order, left));
                left++;
            } else {
                put(merged, to, at(order, right));
                right++;
            }
        }
        for (int row = low; row < high; row++) {
            put(order, row, at(merged, row));
        }
    }

    private int keyOfRow(int row) {
        return at(keys, at(order, row));
    }

    private int valueOfRow(int row) {
        return at(values, at(order, row));
    }

    private void takeFromRun(int row) {
        int run = at(order, row) / workSize;
        int left = at(rowsLeft, run) - 1;
        put(rowsLeft, run, left);
        if (left == 0) {
            openRuns--;
        }
    }

    private void addToGroup(int value) {
        boolean isFirst = at(currentGroup, HOW_MANY) == 0;
        put(currentGroup, HOW_MANY, at(currentGroup, HOW_MANY) + 1);
        put(currentGroup, SUM, at(currentGroup, SUM) + value);
        put(currentGroup, LEAST, isFirst ? value : Math.min(at(currentGroup, LEAST), value));
        put(currentGroup, GREATEST, isFirst ? value : Math.max(at(currentGroup, GREATEST), value));
    }

    private void clearCurrent() {
        currentKey = 0;
        currentValue = 0;
        for (int what = 0; what < GROUP_ANSWERS; what++) {
            put(currentGroup, what, 0);
        }
    }

    // All arrays are read and written here alone, so that no index is used before it is looked at.
    private static int at(int[] cells, int index) {
        return index >= 0 && index < cells.length ? cells[index] : 0;
    }

    private static void put(int[] cells, int index, int number) {
        if (index >= 0 && index < cells.length) {
            cells[index] = number;
        }
    }
}
