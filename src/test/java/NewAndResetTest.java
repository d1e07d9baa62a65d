/** Promises 1 and 2: a new object, with W and S brought into their bounds, and reset. */
public final class NewAndResetTest {
    public static void main(String[] args) {
        newObjectIsEmptyAndFeeding();
        roomIs(1, 1, 2);
        roomIs(2, 7, 8);
        roomIs(3, 9, 12);
        roomIs(5, 4, 5);
        roomIs(5, 5, 10);
        roomIs(64, 2000, 2048);
        roomIs(64, 63, 64);
        roomIs(1, 2000, 2001);
        roomIs(0, 1, 2);
        roomIs(-7, 3, 4);
        roomIs(Integer.MIN_VALUE, Integer.MIN_VALUE, 2);
        roomIs(2, 0, 2);
        roomIs(1, 0, 2);
        roomIs(65, 64, 128);
        roomIs(Integer.MAX_VALUE, Integer.MAX_VALUE, 2048);
        roomIs(1, 2001, 2001);
        workAreaIs(65, 64);
        workAreaIs(64, 64);
        workAreaIs(63, 63);
        workAreaIs(0, 1);
        resetWhileFeeding();
        resetWhileReading();
        resetOfAFullOne();
        Check.end();
    }

    private static void newObjectIsEmptyAndFeeding() {
        ExternalSorter x = new ExternalSorter(3, 9);
        Check.counts("new", x, 0, 0, 0, 0);
        Check.nothingIsCurrent("new", x);
        Check.due("new: nextRow()", ExternalSorter.NOT_SEALED, x.nextRow());
        Check.due("new: feed", ExternalSorter.OK, x.feed(1, 1));
    }

    private static void roomIs(int w, int s, int room) {
        String name = "w " + w + ", s " + s;
        ExternalSorter x = new ExternalSorter(w, s);
        int came = 0;
        for (int call = 0; call < 11; call++) {
            came += x.feedMany(call, -1, 0, 200);
        }
        Check.due(name + ": room", room, came);
        Check.due(name + ": count(0)", room, x.count(0));
        Check.due(name + ": feed", ExternalSorter.FULL, x.feed(1, 1));
        Check.due(name + ": seal", ExternalSorter.OK, x.seal());
        Check.due(name + ": all rows", room, x.skipTo(Integer.MAX_VALUE));
    }

    private static void workAreaIs(int w, int pairs) {
        ExternalSorter x = new ExternalSorter(w, 2000);
        x.feedMany(0, 1, 0, pairs);
        Check.counts("w " + w + ", as many as fit", x, pairs, 0, 0, 0);
        x.feed(0, 0);
        Check.counts("w " + w + ", one more", x, pairs + 1, pairs, 0, 1);
    }

    private static void resetWhileFeeding() {
        ExternalSorter x = new ExternalSorter(2, 7);
        x.feedMany(9, -1, 5, 5);
        x.reset();
        Check.counts("reset while feeding", x, 0, 0, 0, 0);
        Check.due("seal of nothing", ExternalSorter.OK, x.seal());
        Check.due("no row", ExternalSorter.END, x.nextRow());
    }

    private static void resetWhileReading() {
        ExternalSorter x = new ExternalSorter(2, 7);
        x.feedMany(9, -1, 5, 5);
        x.seal();
        x.nextRow();
        x.reset();
        Check.nothingIsCurrent("reset behind a row", x);
        Check.counts("reset while reading", x, 0, 0, 0, 0);
        Check.due("nextRow", ExternalSorter.NOT_SEALED, x.nextRow());
        Check.due("feed", ExternalSorter.OK, x.feed(4, 44));
        x.seal();
        Check.counts("fed and sealed again", x, 1, 0, 0, 1);
        x.nextGroup();
        Check.groupIs("the new list's group", x, 4, 1, 44, 44, 44);
        x.reset();
        Check.nothingIsCurrent("reset behind a group", x);
    }

    private static void resetOfAFullOne() {
        ExternalSorter x = new ExternalSorter(1, 1);
        Check.due("first filling", 2, x.feedMany(2, -1, 0, 5));
        x.reset();
        Check.due("second filling", 2, x.feedMany(2, -1, 0, 5));
    }
}
