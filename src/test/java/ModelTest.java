import java.util.ArrayList;
import java.util.Comparator;
import java.util.List;
import java.util.Random;

/** All promises together: long runs of drawn calls, each answer held against a plain model. */
public final class ModelTest {
    private static final int RUNS = 3000;
    private static final int CALLS = 512;

    /** The document's words on a list that is simply sorted. */
    private static final class Model {
        private final int w;
        private final int room;
        private final List<int[]> list = new ArrayList<>();
        private List<int[]> rows = null;
        private int consumed = 0;
        private int key = 0;
        private int value = 0;
        private int[] group = new int[4];

        Model(int w, int s) {
            this.w = Math.min(64, Math.max(1, w));
            int spill = Math.min(2000, Math.max(1, s));
            this.room = this.w * (spill / this.w + 1);
        }

        void reset() {
            list.clear();
            rows = null;
            consumed = 0;
            nothing();
        }

        void nothing() {
            key = 0;
            value = 0;
            group = new int[4];
        }

        int feed(int k, int v) {
            if (rows != null) {
                return -3;
            }
            if (list.size() == room) {
                return -2;
            }
            list.add(new int[] {k, v, list.size() / w});
            return 0;
        }

        int feedMany(int k, int step, int v, int n) {
            if (rows != null) {
                return -3;
            }
            int came = 0;
            while (came < n && feed(k + came * step, v + came) == 0) {
                came++;
            }
            return came;
        }

        int seal() {
            if (rows != null) {
                return -3;
            }
            rows = new ArrayList<>(list);
            rows.sort(Comparator.comparingInt(pair -> pair[0]));
            nothing();
            return 0;
        }

        int nextRow() {
            if (rows == null) {
                return -4;
            }
            nothing();
            if (consumed == rows.size()) {
                return -1;
            }
            key = rows.get(consumed)[0];
            value = rows.get(consumed)[1];
            consumed++;
            return 1;
        }

        int nextGroup() {
            if (rows == null) {
                return -4;
            }
            nothing();
            if (consumed == rows.size()) {
                return -1;
            }
            int wanted = rows.get(consumed)[0];
            int[] members = rows.stream().skip(consumed)
                .filter(r -> r[0] == wanted).mapToInt(r -> r[1]).toArray();
            key = wanted;
            group[0] = members.length;
            group[2] = Integer.MAX_VALUE;
            group[3] = Integer.MIN_VALUE;
            for (int member : members) {
                group[1] += member;
                group[2] = Math.min(group[2], member);
                group[3] = Math.max(group[3], member);
            }
            consumed += members.length;
            return 2;
        }

        int skipTo(int k) {
            if (rows == null) {
                return -4;
            }
            nothing();
            int skipped = (int) rows.stream().skip(consumed).filter(r -> r[0] < k).count();
            consumed += skipped;
            return skipped;
        }

        int count(int what) {
            int spilled = list.isEmpty() ? 0 : (list.size() - 1) / w;
            int open = rows == null ? spilled
                : (int) rows.stream().skip(consumed).mapToInt(r -> r[2]).distinct().count();
            return new int[] {list.size(), spilled * w, consumed, open}[what];
        }
    }

    private final Random draw;
    private final ExternalSorter x;
    private final Model m;
    private final int keySpan;
    private final String name;

    private ModelTest(int seed) {
        draw = new Random(seed);
        int w = seed % 3 == 0 ? draw.nextInt(70) - 2 : draw.nextInt(6);
        int s = seed % 4 == 0 ? draw.nextInt(2100) : draw.nextInt(40);
        keySpan = 1 << draw.nextInt(12);
        x = new ExternalSorter(w, s);
        m = new Model(w, s);
        name = "seed " + seed + ", new ExternalSorter(" + w + ", " + s + ")";
    }

    private int number() {
        switch (draw.nextInt(12)) {
            case 0:
                return draw.nextInt();
            case 1:
                return Integer.MAX_VALUE - draw.nextInt(2);
            case 2:
                return Integer.MIN_VALUE + draw.nextInt(2);
            default:
                return draw.nextInt(keySpan) - keySpan / 2;
        }
    }

    private void due(int call, String what, int want, int got) {
        Check.due(name + ", call " + call + ", " + what, want, got);
    }

    private void oneCall(int call) {
        int a = number();
        int b = number();
        int c = number();
        // Reset and seal are drawn seldom, so that lists grow and rows are read.
        switch (draw.nextInt(200) < 3 ? 0 : draw.nextInt(16) == 0 ? 1 : 2 + draw.nextInt(6)) {
            case 0:
                x.reset();
                m.reset();
                break;
            case 1:
                due(call, "seal", m.seal(), x.seal());
                break;
            case 2:
                due(call, "feed", m.feed(a, b), x.feed(a, b));
                break;
            case 3:
                int n = draw.nextInt(4) == 0 ? draw.nextInt(201) : draw.nextInt(9);
                due(call, "feedMany", m.feedMany(a, b, c, n), x.feedMany(a, b, c, n));
                break;
            case 4:
                due(call, "nextRow", m.nextRow(), x.nextRow());
                break;
            case 5:
                due(call, "nextGroup", m.nextGroup(), x.nextGroup());
                break;
            case 6:
                illegalCall(call, draw.nextBoolean() ? -1 - draw.nextInt(3) : 201 + draw.nextInt(3), a);
                break;
            default:
                int to = draw.nextInt(3) == 0 ? a : m.key + draw.nextInt(3);
                due(call, "skipTo", m.skipTo(to), x.skipTo(to));
                break;
        }
    }

    /** The model has no such calls: it stays as it is, and so should the object. */
    private void illegalCall(int call, int wrong, int any) {
        String what = name + ", call " + call + ", " + wrong;
        Check.illegal(what + ": feedMany", () -> x.feedMany(any, any, any, wrong));
        Check.illegal(what + ": group", () -> x.group(wrong));
        Check.illegal(what + ": count", () -> x.count(wrong));
    }

    private void compareState(int call) {
        due(call, "key", m.key, x.key());
        due(call, "value", m.value, x.value());
        for (int what = 0; what < 4; what++) {
            due(call, "group " + what, m.group[what], x.group(what));
            due(call, "count " + what, m.count(what), x.count(what));
        }
    }

    /** The ten calls that look at the state count too (and up to three are refused): 13 at a time. */
    private void run() {
        for (int call = 0; call + 13 <= CALLS; call += 13) {
            oneCall(call);
            compareState(call);
        }
    }

    public static void main(String[] args) {
        for (int seed = 0; seed < RUNS; seed++) {
            new ModelTest(seed).run();
        }
        Check.end();
    }
}
