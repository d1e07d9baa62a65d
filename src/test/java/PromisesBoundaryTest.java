import java.util.Arrays;

/** A test for each sentence of the twelve promises that names a boundary case. */
public final class PromisesBoundaryTest {
    private static final int MIN = Integer.MIN_VALUE;
    private static final int MAX = Integer.MAX_VALUE;

    public static void main(String[] args) {
        newAndReset();
        feeding();
        reading();
        looking();
        Check.end();
    }

    private static void newAndReset() {
        Check.sentence("1: W (below 1 counts as 1, ..)", PromisesBoundaryTest::workBelow1);
        Check.sentence("1: W (.. above 64 as 64)", PromisesBoundaryTest::workAbove64);
        Check.sentence("1: S (below 1 counts as 1, ..)", PromisesBoundaryTest::spillBelow1);
        Check.sentence("1: S (.. above 2000 as 2000)", PromisesBoundaryTest::spillAbove2000);
        Check.sentence("1: an empty list, feeding", PromisesBoundaryTest::newIsEmptyAndFeeding);
        Check.sentence("2: The list is empty, feeding", PromisesBoundaryTest::resetEmptiesTheList);
        Check.sentence("2: nothing was spilled", PromisesBoundaryTest::resetForgetsSpills);
    }

    private static void feeding() {
        Check.sentence("3: A pair comes: OK", PromisesBoundaryTest::feedOk);
        Check.sentence("3: A pair comes: .. SEALED", PromisesBoundaryTest::feedSealed);
        Check.sentence("3: A pair comes: .. FULL", PromisesBoundaryTest::feedFull);
        Check.sentence("4: n pairs (0 .. 200) come", PromisesBoundaryTest::feedManyOf0To200);
        Check.sentence("4: key + k * step (32 bits, wrapping)", PromisesBoundaryTest::feedManyWrapsKeys);
        Check.sentence("4: value + k for k = 0, 1, ..", PromisesBoundaryTest::feedManyWrapsValues);
        Check.sentence("4: how many came before it was FULL", PromisesBoundaryTest::feedManyUpToFull);
        Check.sentence("4: SEALED", PromisesBoundaryTest::feedManySealed);
        Check.sentence("4: Illegal argument", PromisesBoundaryTest::feedManyIllegal);
        Check.sentence("5: Reading begins: OK", PromisesBoundaryTest::sealOk);
        Check.sentence("5: Reading begins: .. SEALED", PromisesBoundaryTest::sealSealed);
    }

    private static void reading() {
        Check.sentence("6: The next row is consumed, and current: ROW", PromisesBoundaryTest::nextRowRow);
        Check.sentence("6: END", PromisesBoundaryTest::nextRowEnd);
        Check.sentence("6: NOT_SEALED", PromisesBoundaryTest::nextRowNotSealed);
        Check.sentence("7: The next row's group is consumed, and current: GROUP",
            PromisesBoundaryTest::nextGroupGroup);
        Check.sentence("7: END", PromisesBoundaryTest::nextGroupEnd);
        Check.sentence("7: NOT_SEALED", PromisesBoundaryTest::nextGroupNotSealed);
        Check.sentence("8: Rows whose key is below this one are consumed",
            PromisesBoundaryTest::skipToConsumesBelow);
        Check.sentence("8: and nothing is current", PromisesBoundaryTest::skipToLeavesNothingCurrent);
        Check.sentence("8: how many", PromisesBoundaryTest::skipToTellsHowMany);
        Check.sentence("8: NOT_SEALED", PromisesBoundaryTest::skipToNotSealed);
    }

    private static void looking() {
        Check.sentence("9: The key of what is current", PromisesBoundaryTest::keyOfRowAndGroup);
        Check.sentence("9: 0 without", PromisesBoundaryTest::keyWithout);
        Check.sentence("10: The value of the row that is current", PromisesBoundaryTest::valueOfRow);
        Check.sentence("10: 0 without", PromisesBoundaryTest::valueWithout);
        Check.sentence("11: Of the group that is current", PromisesBoundaryTest::groupOfGroup);
        Check.sentence("11: 0 without", PromisesBoundaryTest::groupWithout);
        Check.sentence("11: Illegal argument", PromisesBoundaryTest::groupIllegal);
        Check.sentence("12: how many pairs the list has", PromisesBoundaryTest::countPairs);
        Check.sentence("12: how many were spilled", PromisesBoundaryTest::countSpilled);
        Check.sentence("12: how many rows are consumed", PromisesBoundaryTest::countConsumed);
        Check.sentence("12: how many runs were spilled", PromisesBoundaryTest::countRunsWhileFeeding);
        Check.sentence("12: behind sealing, how many runs .. still have rows",
            PromisesBoundaryTest::countRunsWithRows);
        Check.sentence("12: (what the work area holds is one, too)",
            PromisesBoundaryTest::countTheWorkAreaAsARun);
        Check.sentence("12: Illegal argument", PromisesBoundaryTest::countIllegal);
    }

    /** Fills it: what had been spilled is W times the runs, and W more is the room. */
    private static void sizesAre(int w, int s, int workSize, int runs) {
        String name = "new ExternalSorter(" + w + ", " + s + ")";
        ExternalSorter x = new ExternalSorter(w, s);
        x.feedMany(0, 0, 0, workSize);
        Check.counts(name + ", W pairs", x, workSize, 0, 0, 0);
        Check.due(name + ", one more", ExternalSorter.OK, x.feed(0, 0));
        Check.counts(name + ", one more", x, workSize + 1, workSize, 0, 1);
        for (int call = 0; call < 11; call++) {
            x.feedMany(0, 0, 0, 200);
        }
        Check.counts(name + ", full", x, workSize * (runs + 1), workSize * runs, 0, runs);
    }

    private static void workBelow1() {
        for (int w : new int[] {1, 0, -1, -64, MIN, MIN + 1}) {
            sizesAre(w, 5, 1, 5);
        }
        sizesAre(2, 5, 2, 2);
    }

    private static void workAbove64() {
        sizesAre(63, 2000, 63, 31);
        for (int w : new int[] {64, 65, 66, 128, 2000, MAX - 1, MAX}) {
            sizesAre(w, 2000, 64, 31);
        }
    }

    private static void spillBelow1() {
        for (int s : new int[] {1, 0, -1, -2, -2000, MIN, MIN + 1}) {
            sizesAre(1, s, 1, 1);
        }
        sizesAre(1, 2, 1, 2);
    }

    private static void spillAbove2000() {
        sizesAre(1, 1999, 1, 1999);
        for (int s : new int[] {2000, 2001, 2002, 4000, MAX - 1, MAX}) {
            sizesAre(1, s, 1, 2000);
        }
    }

    private static void newIsEmptyAndFeeding() {
        for (int w : new int[] {MIN, 0, 1, 64, MAX}) {
            for (int s : new int[] {MIN, 0, 1, 2000, MAX}) {
                ExternalSorter x = new ExternalSorter(w, s);
                Check.counts("new", x, 0, 0, 0, 0);
                Check.nothingIsCurrent("new", x);
                Check.due("new: nextRow", ExternalSorter.NOT_SEALED, x.nextRow());
                Check.due("new: feed", ExternalSorter.OK, x.feed(0, 0));
                ExternalSorter y = new ExternalSorter(w, s);
                Check.due("new: seal", ExternalSorter.OK, y.seal());
                Check.due("new and sealed: nextRow", ExternalSorter.END, y.nextRow());
            }
        }
    }

    private static void resetEmptiesTheList() {
        for (State state : State.values()) {
            ExternalSorter x = state.make();
            x.reset();
            Check.due(state + ": pairs", 0, x.count(0));
            Check.due(state + ": consumed", 0, x.count(2));
            Check.due(state + ": nextRow", ExternalSorter.NOT_SEALED, x.nextRow());
            Check.sameFromHere(state + ", reset", State.NEW.make(), x);
            x.reset();
            x.reset();
            Check.due(state + ": all the room again", State.ROOM, x.feedMany(9, -1, 0, 200));
        }
    }

    private static void resetForgetsSpills() {
        for (State state : State.values()) {
            ExternalSorter x = state.make();
            x.reset();
            Check.due(state + ": spilled", 0, x.count(1));
            Check.due(state + ": runs", 0, x.count(3));
            x.feedMany(1, 1, 1, State.W);
            Check.counts(state + ", W pairs behind it", x, State.W, 0, 0, 0);
            x.feed(0, 0);
            Check.counts(state + ", one more", x, State.W + 1, State.W, 0, 1);
            x.seal();
            Check.due(state + ": runs behind sealing", 2, x.count(3));
        }
    }

    private static void feedOk() {
        ExternalSorter x = new ExternalSorter(1, 4);
        int[] numbers = {0, MIN, MAX, -1};
        for (int number : numbers) {
            Check.due("feed", ExternalSorter.OK, x.feed(number, number));
        }
        Check.due("the last that fits", ExternalSorter.OK, x.feed(7, 7));
        Check.due("pairs", 5, x.count(0));
    }

    private static void feedSealed() {
        for (State state : State.values()) {
            if (state.reading) {
                Check.due(state + ": feed", ExternalSorter.SEALED, state.make().feed(1, 1));
            }
        }
        ExternalSorter x = State.FULL.make();
        x.seal();
        Check.due("full and sealed", ExternalSorter.SEALED, x.feed(1, 1));
        x.skipTo(MAX);
        Check.due("all consumed", ExternalSorter.SEALED, x.feed(1, 1));
    }

    private static void feedFull() {
        int[][] sizes = {{1, 1}, {2, 1}, {3, 8}, {64, 2000}, {1, 2000}, {0, 0}};
        for (int[] size : sizes) {
            ExternalSorter x = new ExternalSorter(size[0], size[1]);
            for (int call = 0; call < 11; call++) {
                x.feedMany(0, 0, 0, 200);
            }
            int pairs = x.count(0);
            Check.due("feed", ExternalSorter.FULL, x.feed(1, 1));
            Check.due("feed again", ExternalSorter.FULL, x.feed(1, 1));
            Check.due("pairs", pairs, x.count(0));
            x.reset();
            Check.due("feed behind a reset", ExternalSorter.OK, x.feed(1, 1));
        }
    }

    private static void feedManyOf0To200() {
        for (int n : new int[] {0, 1, 2, 63, 64, 65, 128, 129, 199, 200}) {
            ExternalSorter x = new ExternalSorter(64, 2000);
            Check.due("feedMany, n " + n, n, x.feedMany(n, -1, 0, n));
            int runs = n == 0 ? 0 : (n - 1) / 64;
            Check.counts("n " + n, x, n, 64 * runs, 0, runs);
            x.seal();
            for (int key = 1; key <= n; key++) {
                x.nextRow();
                Check.due("n " + n + ": key", key, x.key());
            }
            Check.due("n " + n + ": the end", ExternalSorter.END, x.nextRow());
        }
    }

    private static void feedManyWrapsKeys() {
        keysAre(MAX, 1, MIN, MIN + 1, MAX);
        keysAre(MIN, -1, MIN, MAX - 1, MAX);
        keysAre(0, MAX, -2, 0, MAX);
        keysAre(0, MIN, MIN, 0, 0);
        keysAre(-1, MIN, -1, -1, MAX);
        keysAre(7, 0, 7, 7, 7);
        keysAre(MAX, MAX, -2, MAX - 2, MAX);
        // 199 * 2^25 is far beyond 32 bits: a product that did not wrap would give another key.
        ExternalSorter x = new ExternalSorter(64, 2000);
        x.feedMany(1, 1 << 25, 0, 200);
        x.seal();
        x.skipTo((199 << 25) + 1);
        x.nextGroup();
        Check.groupIs("k = 71 and 199", x, (71 << 25) + 1, 2, 270, 71, 199);
    }

    /** The three keys that feedMany makes, whatever their order. */
    private static void keysAre(int key, int step, int... keys) {
        int[] sorted = keys.clone();
        Arrays.sort(sorted);
        ExternalSorter x = new ExternalSorter(2, 7);
        x.feedMany(key, step, 0, 3);
        x.seal();
        for (int want : sorted) {
            x.nextRow();
            Check.due("key of feedMany(" + key + ", " + step + ", 0, 3)", want, x.key());
        }
    }

    private static void feedManyWrapsValues() {
        valuesBeginAt(MAX - 1, MAX - 1, MAX, MIN, MIN + 1);
        valuesBeginAt(MAX, MAX, MIN, MIN + 1, MIN + 2);
        valuesBeginAt(-2, -2, -1, 0, 1);
        valuesBeginAt(MIN, MIN, MIN + 1, MIN + 2, MIN + 3);
    }

    private static void valuesBeginAt(int first, int... values) {
        ExternalSorter x = new ExternalSorter(3, 7);
        x.feedMany(5, 0, first, values.length);
        x.seal();
        for (int value : values) {
            x.nextRow();
            Check.rowIs("values from " + first, x, 5, value);
        }
    }

    private static void feedManyUpToFull() {
        for (int before = 0; before <= State.ROOM; before++) {
            int left = State.ROOM - before;
            for (int n : new int[] {left - 1, left, left + 1, 200}) {
                if (n >= 0) {
                    ExternalSorter x = new ExternalSorter(State.W, 9);
                    x.feedMany(0, 0, 0, before);
                    int came = n < left ? n : left;
                    Check.due(before + " before, n " + n, came, x.feedMany(1, 1, 1, n));
                    Check.due(before + " before, n " + n + ": pairs", before + came, x.count(0));
                    x.seal();
                    Check.due(before + " before, n " + n + ": of key 0", before, x.skipTo(1));
                    Check.due(before + " before, n " + n + ": the first", came, x.skipTo(came + 1));
                }
            }
        }
        Check.due("full, n 0", 0, State.FULL.make().feedMany(1, 1, 1, 0));
        Check.due("full, n 1", 0, State.FULL.make().feedMany(1, 1, 1, 1));
        ExternalSorter x = State.FULL.make();
        x.feedMany(MIN, 1, 1, 200);
        Check.sameFromHere("full, n 200", State.FULL.make(), x);
    }

    private static void feedManySealed() {
        for (State state : State.values()) {
            for (int n : new int[] {0, 1, 199, 200}) {
                if (state.reading) {
                    int got = state.make().feedMany(1, 1, 1, n);
                    Check.due(state + ": feedMany, n " + n, ExternalSorter.SEALED, got);
                }
            }
        }
    }

    private static void feedManyIllegal() {
        for (State state : State.values()) {
            for (int n : new int[] {-1, -2, -200, MIN, 201, 202, MAX}) {
                ExternalSorter x = state.make();
                Check.illegal(state + ": feedMany, n " + n, () -> x.feedMany(1, 1, 1, n));
                Check.sameState(state + ", n " + n, state.make(), x);
            }
        }
        ExternalSorter x = new ExternalSorter(64, 2000);
        Check.due("extreme numbers but n", 200, x.feedMany(MIN, MIN, MIN, 200));
        Check.due("extreme numbers but n", 200, x.feedMany(MAX, MAX, MAX, 200));
    }

    private static void sealOk() {
        for (State state : State.values()) {
            if (!state.reading) {
                ExternalSorter x = state.make();
                int pairs = x.count(0);
                int spilled = x.count(1);
                Check.due(state + ": seal", ExternalSorter.OK, x.seal());
                Check.due(state + ": pairs", pairs, x.count(0));
                Check.due(state + ": spilled", spilled, x.count(1));
                int answer = pairs == 0 ? ExternalSorter.END : ExternalSorter.ROW;
                Check.due(state + ": nextRow", answer, x.nextRow());
            }
        }
    }

    private static void sealSealed() {
        for (State state : State.values()) {
            if (state.reading) {
                ExternalSorter x = state.make();
                Check.due(state + ": seal", ExternalSorter.SEALED, x.seal());
                Check.due(state + ": seal again", ExternalSorter.SEALED, x.seal());
                x.reset();
                Check.due(state + ": seal behind a reset", ExternalSorter.OK, x.seal());
            }
        }
    }

    private static void nextRowRow() {
        ExternalSorter x = new ExternalSorter(1, 2);
        x.feed(MAX, 1);
        x.feed(MIN, 2);
        x.feed(0, 3);
        x.seal();
        int[][] rows = {{MIN, 2}, {0, 3}, {MAX, 1}};
        for (int row = 0; row < 3; row++) {
            Check.due("row " + row, ExternalSorter.ROW, x.nextRow());
            Check.rowIs("row " + row, x, rows[row][0], rows[row][1]);
            Check.due("row " + row + ": consumed", row + 1, x.count(2));
        }
    }

    private static void nextRowEnd() {
        Check.due("sealed empty", ExternalSorter.END, State.SEALED_EMPTY.make().nextRow());
        Check.due("behind the last row", ExternalSorter.END, State.LAST_ROW.make().nextRow());
        Check.due("behind the end", ExternalSorter.END, State.END_OF_ROWS.make().nextRow());
        Check.due("behind the last group", ExternalSorter.END, State.END_OF_GROUPS.make().nextRow());
        ExternalSorter x = State.SEALED_FULL.make();
        x.skipTo(MAX);
        Check.due("all skipped", ExternalSorter.END, x.nextRow());
        Check.counts("the end", x, State.ROOM, State.ROOM - State.W, State.ROOM, 0);
    }

    private static void nextRowNotSealed() {
        for (State state : State.values()) {
            if (!state.reading) {
                Check.due(state + ": nextRow", ExternalSorter.NOT_SEALED, state.make().nextRow());
            }
        }
    }

    private static void nextGroupGroup() {
        ExternalSorter x = new ExternalSorter(1, 4);
        x.feed(MAX, 1);
        x.feed(MIN, 2);
        x.feed(MAX, 3);
        x.feed(MIN, 4);
        x.feed(MAX, 5);
        x.seal();
        Check.due("first", ExternalSorter.GROUP, x.nextGroup());
        Check.groupIs("first", x, MIN, 2, 6, 2, 4);
        Check.due("first: consumed", 2, x.count(2));
        Check.due("last", ExternalSorter.GROUP, x.nextGroup());
        Check.groupIs("last", x, MAX, 3, 9, 1, 5);
        Check.due("last: consumed", 5, x.count(2));
        ExternalSorter all = new ExternalSorter(64, 2000);
        for (int call = 0; call < 11; call++) {
            all.feedMany(3, 0, 1, 200);
        }
        all.seal();
        Check.due("a group of all", ExternalSorter.GROUP, all.nextGroup());
        // Ten times 1 .. 200 and once 1 .. 48.
        Check.groupIs("a group of all", all, 3, 2048, 10 * 20100 + 1176, 1, 200);
        Check.counts("a group of all", all, 2048, 1984, 2048, 0);
    }

    private static void nextGroupEnd() {
        Check.due("sealed empty", ExternalSorter.END, State.SEALED_EMPTY.make().nextGroup());
        Check.due("behind the last row", ExternalSorter.END, State.LAST_ROW.make().nextGroup());
        Check.due("behind the end", ExternalSorter.END, State.END_OF_ROWS.make().nextGroup());
        Check.due("behind the last group", ExternalSorter.END, State.END_OF_GROUPS.make().nextGroup());
        ExternalSorter x = State.SEALED_FULL.make();
        x.skipTo(MAX);
        Check.due("all skipped", ExternalSorter.END, x.nextGroup());
        Check.counts("the end", x, State.ROOM, State.ROOM - State.W, State.ROOM, 0);
    }

    private static void nextGroupNotSealed() {
        for (State state : State.values()) {
            if (!state.reading) {
                Check.due(state + ": nextGroup", ExternalSorter.NOT_SEALED, state.make().nextGroup());
            }
        }
    }

    /** Keys -4, -4, -2, -2, 0, 0, 2, 2, 4, 4 in five runs. */
    private static ExternalSorter evenKeys() {
        ExternalSorter x = new ExternalSorter(2, 9);
        x.feedMany(4, -2, 0, 5);
        x.feedMany(-4, 2, 10, 5);
        x.seal();
        return x;
    }

    private static void skipToConsumesBelow() {
        for (int key = -6; key <= 6; key++) {
            ExternalSorter x = evenKeys();
            x.skipTo(key);
            int first = Math.max(-4, key + (key & 1));
            int answer = first > 4 ? ExternalSorter.END : ExternalSorter.GROUP;
            Check.due("skipTo(" + key + "), nextGroup", answer, x.nextGroup());
            Check.due("skipTo(" + key + "), key", first > 4 ? 0 : first, x.key());
            Check.due("skipTo(" + key + "), how many of it", first > 4 ? 0 : 2, x.group(0));
        }
        ExternalSorter x = new ExternalSorter(1, 2);
        x.feedMany(MAX, 1, 0, 2);
        x.seal();
        Check.due("below the least key", 0, x.skipTo(MIN));
        Check.due("below the greatest key", 1, x.skipTo(MAX));
        Check.due("and again", 0, x.skipTo(MAX));
        Check.due("the greatest key stays", ExternalSorter.ROW, x.nextRow());
        Check.due("it is current", MAX, x.key());
    }

    private static void skipToLeavesNothingCurrent() {
        for (State state : State.values()) {
            for (int key : new int[] {MIN, 0, 28, MAX}) {
                if (state.reading) {
                    ExternalSorter x = state.make();
                    x.skipTo(key);
                    Check.nothingIsCurrent(state + ", skipTo(" + key + ")", x);
                }
            }
        }
    }

    private static void skipToTellsHowMany() {
        int[] below = {0, 0, 0, 2, 2, 4, 4, 6, 6, 8, 8, 10, 10};
        for (int key = -6; key <= 6; key++) {
            ExternalSorter x = evenKeys();
            Check.due("skipTo(" + key + ")", below[key + 6], x.skipTo(key));
            Check.due("skipTo(" + key + "), consumed", below[key + 6], x.count(2));
            Check.due("skipTo(" + key + ") again", 0, x.skipTo(key));
            Check.due("back", 0, x.skipTo(MIN));
            Check.due("the rest", 10 - below[key + 6], x.skipTo(5));
            Check.due("none is left", 0, x.skipTo(MAX));
        }
        ExternalSorter x = evenKeys();
        x.nextRow();
        Check.due("one of its key was consumed", 1, x.skipTo(-3));
        Check.due("sealed empty", 0, State.SEALED_EMPTY.make().skipTo(MAX));
        Check.due("behind the end", 0, State.END_OF_ROWS.make().skipTo(MAX));
        Check.due("all of a full one", State.ROOM, State.SEALED_FULL.make().skipTo(MAX));
    }

    private static void skipToNotSealed() {
        for (State state : State.values()) {
            for (int key : new int[] {MIN, 0, MAX}) {
                if (!state.reading) {
                    Check.due(state + ": skipTo", ExternalSorter.NOT_SEALED, state.make().skipTo(key));
                }
            }
        }
    }

    private static void keyOfRowAndGroup() {
        int[] keys = {MIN, -1, 0, 1, MAX};
        for (int key : keys) {
            ExternalSorter x = new ExternalSorter(1, 2);
            x.feed(key, 5);
            x.feed(key, 6);
            x.seal();
            x.nextRow();
            Check.due("a row's key", key, x.key());
            Check.due("asked again", key, x.key());
            x.nextGroup();
            Check.due("a group's key", key, x.key());
        }
    }

    /** States in which neither a row nor a group is current. */
    private static State[] without() {
        return new State[] {State.NEW, State.PART_OF_THE_WORK_AREA, State.FULL_WORK_AREA,
            State.ONE_RUN_SPILLED, State.FULL, State.RESET_WHILE_FEEDING, State.RESET_WHILE_READING,
            State.SEALED_EMPTY, State.SEALED, State.SEALED_FULL, State.SKIPPED, State.END_OF_ROWS,
            State.END_OF_GROUPS};
    }

    private static void keyWithout() {
        for (State state : without()) {
            Check.due(state + ": key", 0, state.make().key());
        }
    }

    private static void valueOfRow() {
        int[] values = {MIN, -1, 0, 1, MAX};
        for (int value : values) {
            ExternalSorter x = new ExternalSorter(1, 1);
            x.feed(8, value);
            x.seal();
            x.nextRow();
            Check.due("value", value, x.value());
            Check.due("asked again", value, x.value());
        }
    }

    private static void valueWithout() {
        for (State state : without()) {
            Check.due(state + ": value", 0, state.make().value());
        }
        Check.due("a group is current: value", 0, State.GROUP.make().value());
        ExternalSorter x = State.ROW.make();
        x.nextGroup();
        Check.due("a group behind a row: value", 0, x.value());
    }

    private static void groupOfGroup() {
        ExternalSorter x = new ExternalSorter(2, 9);
        x.feed(6, -3);
        x.feed(6, 8);
        x.feed(6, -4);
        x.seal();
        x.nextGroup();
        Check.due("how many", 3, x.group(0));
        Check.due("the sum", 1, x.group(1));
        Check.due("the least", -4, x.group(2));
        Check.due("the greatest", 8, x.group(3));
        Check.due("how many, asked again", 3, x.group(0));
    }

    private static void groupWithout() {
        for (int what = 0; what < 4; what++) {
            for (State state : without()) {
                Check.due(state + ": group(" + what + ")", 0, state.make().group(what));
            }
            Check.due("a row is current: group(" + what + ")", 0, State.ROW.make().group(what));
            ExternalSorter x = State.GROUP.make();
            x.nextRow();
            Check.due("a row behind a group: group(" + what + ")", 0, x.group(what));
        }
    }

    private static void groupIllegal() {
        for (State state : State.values()) {
            for (int what : new int[] {-1, -4, MIN, 4, 5, MAX}) {
                ExternalSorter x = state.make();
                Check.illegal(state + ": group(" + what + ")", () -> x.group(what));
                Check.sameState(state + ", group(" + what + ")", state.make(), x);
            }
        }
    }

    private static void countPairs() {
        ExternalSorter x = new ExternalSorter(2, 3);
        for (int pairs = 0; pairs < 4; pairs++) {
            Check.due("fed", pairs, x.count(0));
            x.feed(pairs, 0);
        }
        x.feed(9, 9);
        Check.due("full", 4, x.count(0));
        x.seal();
        Check.due("sealed", 4, x.count(0));
        x.skipTo(MAX);
        Check.due("all consumed", 4, x.count(0));
    }

    private static void countSpilled() {
        ExternalSorter x = new ExternalSorter(2, 5);
        int[] spilled = {0, 0, 0, 2, 2, 4, 4};
        for (int pairs = 0; pairs <= 6; pairs++) {
            Check.due(pairs + " pairs", spilled[pairs], x.count(1));
            x.feed(pairs, 0);
        }
        Check.due("full", 4, x.count(1));
        x.seal();
        Check.due("sealed", 4, x.count(1));
        x.skipTo(MAX);
        Check.due("all consumed", 4, x.count(1));
    }

    private static void countConsumed() {
        for (State state : State.values()) {
            if (!state.reading) {
                Check.due(state + ": consumed", 0, state.make().count(2));
            }
        }
        Check.due("sealed", 0, State.SEALED.make().count(2));
        ExternalSorter x = evenKeys();
        x.nextRow();
        Check.due("a row", 1, x.count(2));
        x.nextGroup();
        Check.due("the group's rest", 2, x.count(2));
        x.nextGroup();
        Check.due("a group", 4, x.count(2));
        x.skipTo(3);
        Check.due("skipped", 8, x.count(2));
        x.skipTo(MAX);
        x.nextRow();
        x.nextGroup();
        Check.due("the end", 10, x.count(2));
    }

    private static void countRunsWhileFeeding() {
        ExternalSorter x = new ExternalSorter(2, 5);
        int[] runs = {0, 0, 0, 1, 1, 2, 2};
        for (int pairs = 0; pairs <= 6; pairs++) {
            Check.due(pairs + " pairs", runs[pairs], x.count(3));
            x.feed(pairs, 0);
        }
        Check.due("full", 2, x.count(3));
    }

    private static void countRunsWithRows() {
        ExternalSorter x = new ExternalSorter(2, 9);
        for (int key : new int[] {1, 9, 2, 2, 8, 3, 9, 9}) {
            x.feed(key, 0);
        }
        x.seal();
        Check.due("sealed", 4, x.count(3));
        x.nextRow();
        Check.due("a run's first row", 4, x.count(3));
        x.nextRow();
        Check.due("a run's first row", 4, x.count(3));
        x.nextRow();
        Check.due("a run's last row", 3, x.count(3));
        x.skipTo(9);
        Check.due("skipped over another run", 2, x.count(3));
        x.nextRow();
        Check.due("the oldest run's last row", 1, x.count(3));
        x.nextGroup();
        Check.due("the rest of all", 0, x.count(3));
        x.nextRow();
        Check.due("the end", 0, x.count(3));
    }

    private static void countTheWorkAreaAsARun() {
        Check.due("no pair, no run", 0, State.SEALED_EMPTY.make().count(3));
        int[] runs = {0, 1, 1, 2, 2, 3, 3};
        for (int pairs = 0; pairs <= 6; pairs++) {
            ExternalSorter x = new ExternalSorter(2, 5);
            x.feedMany(0, -1, 0, pairs);
            x.seal();
            Check.due(pairs + " pairs", runs[pairs], x.count(3));
        }
        ExternalSorter x = new ExternalSorter(2, 5);
        x.feedMany(5, -2, 0, 3);
        x.seal();
        x.nextRow();
        Check.due("the work area's only row is consumed", 1, x.count(3));
    }

    private static void countIllegal() {
        for (State state : State.values()) {
            for (int what : new int[] {-1, -4, MIN, 4, 5, MAX}) {
                ExternalSorter x = state.make();
                Check.illegal(state + ": count(" + what + ")", () -> x.count(what));
                Check.sameState(state + ", count(" + what + ")", state.make(), x);
            }
        }
    }
}
