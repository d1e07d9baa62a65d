/** Promise 12: count. */
public final class CountTest {
    public static void main(String[] args) {
        whileFeeding();
        runsThatStillHaveRows();
        runsOfGroupsAndSkips();
        withoutSpill();
        wrongNumbers();
        Check.end();
    }

    private static void whileFeeding() {
        ExternalSorter x = new ExternalSorter(3, 7);
        for (int k = 1; k <= 9; k++) {
            x.feed(0, 0);
            int runs = (k - 1) / 3;
            Check.counts("fed " + k, x, k, 3 * runs, 0, runs);
        }
    }

    private static void runsThatStillHaveRows() {
        ExternalSorter x = new ExternalSorter(2, 7);
        int[] keys = {1, 5, 3, 2, 4};
        for (int key : keys) {
            x.feed(key, 0);
        }
        Check.counts("fed", x, 5, 4, 0, 2);
        x.seal();
        int[] runsBehind = {3, 3, 2, 1, 0};
        Check.counts("sealed", x, 5, 4, 0, 3);
        for (int row = 0; row < 5; row++) {
            x.nextRow();
            Check.counts("row " + row, x, 5, 4, row + 1, runsBehind[row]);
        }
        x.nextRow();
        Check.counts("the end", x, 5, 4, 5, 0);
    }

    private static void runsOfGroupsAndSkips() {
        ExternalSorter x = new ExternalSorter(2, 20);
        int[] keys = {1, 1, 2, 1, 3, 2, 3, 3, 4};
        for (int key : keys) {
            x.feed(key, 0);
        }
        x.seal();
        Check.counts("sealed", x, 9, 8, 0, 5);
        x.nextGroup();
        Check.counts("group of 1", x, 9, 8, 3, 4);
        x.skipTo(3);
        Check.counts("skipped to 3", x, 9, 8, 5, 3);
        x.nextGroup();
        Check.counts("group of 3", x, 9, 8, 8, 1);
        x.skipTo(5);
        Check.counts("skipped to 5", x, 9, 8, 9, 0);
    }

    private static void withoutSpill() {
        ExternalSorter x = new ExternalSorter(8, 4);
        x.feedMany(8, -1, 0, 8);
        Check.counts("a full work area", x, 8, 0, 0, 0);
        x.seal();
        Check.counts("sealed", x, 8, 0, 0, 1);
        x.skipTo(100);
        Check.counts("all consumed", x, 8, 0, 8, 0);
    }

    private static void wrongNumbers() {
        ExternalSorter x = new ExternalSorter(2, 7);
        for (int what : new int[] {-1, 4, Integer.MIN_VALUE, Integer.MAX_VALUE}) {
            Check.illegal("feeding: count(" + what + ")", () -> x.count(what));
        }
        x.seal();
        Check.illegal("reading: count(4)", () -> x.count(4));
        Check.illegal("reading: count(-1)", () -> x.count(-1));
    }
}
