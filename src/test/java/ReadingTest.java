/** Promises 6 to 11: nextRow, nextGroup, skipTo, and what key, value and group tell of them. */
public final class ReadingTest {
    public static void main(String[] args) {
        rowsAreStable();
        rowsEnd();
        groupsTellAll();
        groupsWrapTheirSum();
        groupOfTheRest();
        skipping();
        skippingAtTheEdges();
        mostRuns();
        wrongNumbers();
        Check.end();
    }

    /** Keys 2, 1, 2, 1, .. over several runs, values in the order of feeding. */
    private static ExternalSorter twoKeys(int w, int pairs) {
        ExternalSorter x = new ExternalSorter(w, 2000);
        for (int k = 0; k < pairs; k++) {
            x.feed(2 - k % 2, k);
        }
        x.seal();
        return x;
    }

    private static void rowsAreStable() {
        for (int w = 1; w <= 12; w++) {
            ExternalSorter x = twoKeys(w, 21);
            for (int k = 1; k < 21; k += 2) {
                Check.due("nextRow", ExternalSorter.ROW, x.nextRow());
                Check.rowIs("w " + w, x, 1, k);
            }
            for (int k = 0; k < 21; k += 2) {
                Check.due("nextRow", ExternalSorter.ROW, x.nextRow());
                Check.rowIs("w " + w, x, 2, k);
            }
            Check.due("nextRow", ExternalSorter.END, x.nextRow());
        }
    }

    private static void rowsEnd() {
        ExternalSorter x = new ExternalSorter(2, 7);
        x.feed(Integer.MIN_VALUE, -5);
        x.seal();
        x.nextRow();
        Check.rowIs("the only row", x, Integer.MIN_VALUE, -5);
        Check.due("nextRow", ExternalSorter.END, x.nextRow());
        Check.nothingIsCurrent("the end of rows", x);
        Check.due("nextRow again", ExternalSorter.END, x.nextRow());
        Check.due("nextGroup", ExternalSorter.END, x.nextGroup());
        Check.due("skipTo", 0, x.skipTo(Integer.MAX_VALUE));
        Check.counts("the end", x, 1, 0, 1, 0);
    }

    private static void groupsTellAll() {
        ExternalSorter x = new ExternalSorter(2, 7);
        int[][] pairs = {{5, -8}, {3, 7}, {5, -2}, {5, -9}, {3, 1}, {4, 0}};
        for (int[] pair : pairs) {
            x.feed(pair[0], pair[1]);
        }
        x.seal();
        Check.due("nextGroup", ExternalSorter.GROUP, x.nextGroup());
        Check.groupIs("both above 0", x, 3, 2, 8, 1, 7);
        Check.due("nextGroup", ExternalSorter.GROUP, x.nextGroup());
        Check.groupIs("one of 0", x, 4, 1, 0, 0, 0);
        Check.due("nextGroup", ExternalSorter.GROUP, x.nextGroup());
        Check.groupIs("all below 0", x, 5, 3, -19, -9, -2);
        Check.due("nextGroup", ExternalSorter.END, x.nextGroup());
        Check.nothingIsCurrent("the end of groups", x);
    }

    private static void groupsWrapTheirSum() {
        ExternalSorter x = new ExternalSorter(2, 7);
        x.feed(1, Integer.MAX_VALUE);
        x.feed(1, Integer.MAX_VALUE);
        x.feed(1, Integer.MIN_VALUE);
        x.feed(1, Integer.MIN_VALUE);
        x.feed(1, Integer.MIN_VALUE);
        x.seal();
        x.nextGroup();
        // 2 * (2^31 - 1) - 3 * 2^31 is -2^31 - 2, which wraps to 2^31 - 2.
        Check.groupIs("wrapping", x, 1, 5, 2147483646, Integer.MIN_VALUE, Integer.MAX_VALUE);
    }

    private static void groupOfTheRest() {
        ExternalSorter x = twoKeys(3, 10);
        x.nextRow();
        x.nextRow();
        x.nextGroup();
        Check.groupIs("rows that were left", x, 1, 3, 5 + 7 + 9, 5, 9);
        x.nextRow();
        Check.rowIs("a row behind a group", x, 2, 0);
        x.skipTo(2);
        x.nextGroup();
        Check.groupIs("rows that were left", x, 2, 4, 2 + 4 + 6 + 8, 2, 8);
        Check.due("nextRow", ExternalSorter.END, x.nextRow());
        Check.nothingIsCurrent("the end behind a group", x);
    }

    private static void skipping() {
        ExternalSorter x = new ExternalSorter(3, 30);
        x.feedMany(20, -2, 0, 11);
        x.seal();
        Check.due("below all", 0, x.skipTo(0));
        x.nextRow();
        Check.rowIs("first", x, 0, 10);
        Check.due("next row's own key", 0, x.skipTo(2));
        Check.nothingIsCurrent("skipping none", x);
        Check.due("between keys", 3, x.skipTo(7));
        Check.due("consumed", 4, x.count(2));
        x.nextGroup();
        Check.groupIs("behind skipping", x, 8, 1, 6, 6, 6);
        Check.due("back", 0, x.skipTo(1));
        Check.nothingIsCurrent("skipping behind a group", x);
        Check.due("a key that is there", 5, x.skipTo(20));
        x.nextRow();
        Check.rowIs("last", x, 20, 0);
        Check.due("at the end", 0, x.skipTo(100));
        Check.nothingIsCurrent("skipping at the end", x);
    }

    private static void skippingAtTheEdges() {
        ExternalSorter x = new ExternalSorter(2, 7);
        x.feed(Integer.MAX_VALUE, 1);
        x.feed(Integer.MIN_VALUE, 2);
        x.feed(-1, 3);
        x.feed(0, 4);
        x.seal();
        Check.due("least key", 0, x.skipTo(Integer.MIN_VALUE));
        Check.due("second least key", 1, x.skipTo(Integer.MIN_VALUE + 1));
        Check.due("greatest key", 2, x.skipTo(Integer.MAX_VALUE));
        Check.due("nextRow", ExternalSorter.ROW, x.nextRow());
        Check.rowIs("greatest", x, Integer.MAX_VALUE, 1);
    }

    /** As many runs as there can be, each of one pair, in the order that is hardest to merge. */
    private static void mostRuns() {
        ExternalSorter x = new ExternalSorter(1, 2000);
        for (int call = 0; call < 11; call++) {
            x.feedMany(2000 - 200 * call, -1, 200 * call, 200);
        }
        x.seal();
        Check.counts("most runs", x, 2001, 2000, 0, 2001);
        for (int key = 0; key <= 2000; key += 25) {
            Check.due("skipTo(" + key + ")", key == 0 ? 0 : 24, x.skipTo(key));
            Check.due("nextRow", ExternalSorter.ROW, x.nextRow());
            Check.due("key", key, x.key());
            Check.due("value", 2000 - key, x.value());
            Check.due("runs", 2000 - key, x.count(3));
        }
        Check.due("nextRow", ExternalSorter.END, x.nextRow());
    }

    private static void wrongNumbers() {
        ExternalSorter x = twoKeys(2, 5);
        x.nextGroup();
        for (int what : new int[] {-1, 4, Integer.MIN_VALUE, Integer.MAX_VALUE}) {
            Check.illegal("group(" + what + ")", () -> x.group(what));
        }
        Check.groupIs("behind refused calls", x, 1, 2, 4, 1, 3);
        ExternalSorter fresh = new ExternalSorter(1, 1);
        Check.illegal("new: group(4)", () -> fresh.group(4));
        Check.illegal("new: group(-1)", () -> fresh.group(-1));
    }
}
