/** Every run of up to six calls out of eight, on small objects, each answer held against a plain model. */
public final class EveryShortRunTest {
    private static final int KINDS = 8;
    private static final int LONGEST = 6;
    private static final int[][] SIZES = {{1, 1}, {1, 2}, {2, 1}, {2, 3}};

    public static void main(String[] args) {
        int runs = 1;
        for (int length = 0; length < LONGEST; length++) {
            runs *= KINDS;
        }
        for (int[] size : SIZES) {
            boolean isDue = true;
            for (int run = 0; run < runs && isDue; run++) {
                isDue = replay(size[0], size[1], run);
            }
        }
        Check.end();
    }

    /** A run is a number of six octal digits, its last one the first call: shorter runs begin longer ones. */
    private static boolean replay(int w, int s, int run) {
        ExternalSorter x = new ExternalSorter(w, s);
        Model m = new Model(w, s);
        int digits = run;
        for (int call = 1; call <= LONGEST; call++) {
            if (!sameAnswer(digits % KINDS, m, x) || !sameState(m, x)) {
                String name = "new ExternalSorter(" + w + ", " + s + "), run " + Integer.toOctalString(run);
                Check.holds(name + ", call " + call + ": answer and state as due", false);
                return false;
            }
            digits /= KINDS;
        }
        return true;
    }

    private static boolean sameAnswer(int kind, Model m, ExternalSorter x) {
        switch (kind) {
            case 0:
                return m.feed(1, 7) == x.feed(1, 7);
            case 1:
                return m.feed(0, -9) == x.feed(0, -9);
            case 2:
                return m.feedMany(2, -1, 3, 3) == x.feedMany(2, -1, 3, 3);
            case 3:
                return m.seal() == x.seal();
            case 4:
                return m.nextRow() == x.nextRow();
            case 5:
                return m.nextGroup() == x.nextGroup();
            case 6:
                return m.skipTo(1) == x.skipTo(1);
            default:
                m.reset();
                x.reset();
                return true;
        }
    }

    private static boolean sameState(Model m, ExternalSorter x) {
        boolean same = m.key() == x.key() && m.value() == x.value();
        for (int what = 0; what < 4; what++) {
            same &= m.group(what) == x.group(what) && m.count(what) == x.count(what);
        }
        return same;
    }
}
