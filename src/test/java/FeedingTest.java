/** Promises 3, 4 and 5: feed, feedMany and seal. */
public final class FeedingTest {
    public static void main(String[] args) {
        feedAnswers();
        feedManyAnswers();
        feedManyMakesItsPairs();
        feedManyWraps();
        feedManyRefusesWrongNumbers();
        sealAnswers();
        refusedCallsChangeNothing();
        Check.end();
    }

    private static void feedAnswers() {
        ExternalSorter x = new ExternalSorter(2, 2);
        for (int k = 0; k < 4; k++) {
            Check.due("feed " + k, ExternalSorter.OK, x.feed(-k, k));
            Check.due("count(0)", k + 1, x.count(0));
        }
        Check.due("feed of a full one", ExternalSorter.FULL, x.feed(9, 9));
        Check.counts("full", x, 4, 2, 0, 1);
        x.seal();
        Check.due("feed of a full and sealed one", ExternalSorter.SEALED, x.feed(9, 9));
        x.nextRow();
        Check.rowIs("least key", x, -3, 3);
    }

    private static void feedManyAnswers() {
        ExternalSorter x = new ExternalSorter(4, 9);
        Check.due("n = 0", 0, x.feedMany(1, 1, 1, 0));
        Check.counts("n = 0", x, 0, 0, 0, 0);
        Check.due("n = 5", 5, x.feedMany(1, 1, 1, 5));
        Check.counts("n = 5", x, 5, 4, 0, 1);
        Check.due("more than fit", 7, x.feedMany(1, 1, 1, 200));
        Check.counts("full", x, 12, 8, 0, 2);
        Check.due("full, n = 3", 0, x.feedMany(1, 1, 1, 3));
        Check.due("full, n = 0", 0, x.feedMany(1, 1, 1, 0));
        x.seal();
        Check.due("sealed, n = 3", ExternalSorter.SEALED, x.feedMany(1, 1, 1, 3));
        Check.due("sealed, n = 0", ExternalSorter.SEALED, x.feedMany(1, 1, 1, 0));
    }

    private static void feedManyMakesItsPairs() {
        ExternalSorter x = new ExternalSorter(3, 9);
        x.feedMany(10, -3, 100, 4);
        x.seal();
        for (int k = 3; k >= 0; k--) {
            x.nextRow();
            Check.rowIs("pair " + k, x, 10 - 3 * k, 100 + k);
        }
        Check.due("no more", ExternalSorter.END, x.nextRow());
    }

    private static void feedManyWraps() {
        ExternalSorter x = new ExternalSorter(3, 9);
        x.feedMany(Integer.MAX_VALUE, 1, Integer.MAX_VALUE, 2);
        x.feedMany(5, Integer.MIN_VALUE, 0, 3);
        x.seal();
        x.nextRow();
        Check.rowIs("wrapped by 1", x, Integer.MIN_VALUE, Integer.MIN_VALUE);
        x.nextRow();
        Check.rowIs("wrapped once", x, Integer.MIN_VALUE + 5, 1);
        x.nextGroup();
        Check.groupIs("wrapped twice", x, 5, 2, 2, 0, 2);
        x.nextRow();
        Check.rowIs("greatest", x, Integer.MAX_VALUE, Integer.MAX_VALUE);
    }

    private static void feedManyRefusesWrongNumbers() {
        ExternalSorter x = new ExternalSorter(64, 2000);
        int[] wrong = {-1, 201, Integer.MIN_VALUE, Integer.MAX_VALUE};
        for (int n : wrong) {
            Check.illegal("feedMany with n = " + n, () -> x.feedMany(1, 1, 1, n));
        }
        Check.counts("behind refused calls", x, 0, 0, 0, 0);
        Check.due("n = 200", 200, x.feedMany(1, 1, 1, 200));
        x.seal();
        x.nextRow();
        for (int n : wrong) {
            Check.illegal("sealed, feedMany with n = " + n, () -> x.feedMany(1, 1, 1, n));
        }
        Check.rowIs("behind refused calls", x, 1, 1);
    }

    private static void sealAnswers() {
        ExternalSorter x = new ExternalSorter(2, 7);
        Check.due("seal", ExternalSorter.OK, x.seal());
        Check.due("seal again", ExternalSorter.SEALED, x.seal());
        Check.counts("sealed without pairs", x, 0, 0, 0, 0);
        x.reset();
        Check.due("seal behind a reset", ExternalSorter.OK, x.seal());
    }

    private static void refusedCallsChangeNothing() {
        ExternalSorter x = new ExternalSorter(2, 7);
        x.feedMany(3, -1, 30, 3);
        Check.due("nextRow", ExternalSorter.NOT_SEALED, x.nextRow());
        Check.due("nextGroup", ExternalSorter.NOT_SEALED, x.nextGroup());
        Check.due("skipTo", ExternalSorter.NOT_SEALED, x.skipTo(9));
        Check.counts("behind NOT_SEALED", x, 3, 2, 0, 1);
        x.seal();
        Check.counts("sealing spills nothing", x, 3, 2, 0, 2);
        Check.nothingIsCurrent("behind sealing", x);
        x.nextRow();
        Check.due("feed", ExternalSorter.SEALED, x.feed(0, 0));
        Check.due("feedMany", ExternalSorter.SEALED, x.feedMany(0, 0, 0, 1));
        Check.due("seal", ExternalSorter.SEALED, x.seal());
        Check.rowIs("behind SEALED", x, 1, 32);
        Check.counts("behind SEALED", x, 3, 2, 1, 1);
        x.nextGroup();
        Check.due("seal", ExternalSorter.SEALED, x.seal());
        Check.groupIs("behind SEALED", x, 2, 1, 31, 31, 31);
    }
}
