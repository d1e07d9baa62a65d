import java.util.Random;

/** All promises together: long runs of drawn calls, each answer held against a plain model. */
public final class ModelTest {
    private static final int CALLS = 512;

    private final Random draw;
    private final ExternalSorter x;
    private final Model m;
    private final int keySpan;
    private final String name;
    private int latestKey = 0;

    private ModelTest(int seed, boolean large) {
        draw = new Random(seed);
        int w = large || seed % 3 == 0 ? draw.nextInt(70) - 2 : draw.nextInt(6);
        int s = large ? 1000 + draw.nextInt(1100) : seed % 4 == 0 ? draw.nextInt(2100) : draw.nextInt(40);
        if (large && seed % 2 == 0) {
            w = draw.nextInt(4);
        }
        keySpan = 1 << draw.nextInt(12);
        x = new ExternalSorter(w, s);
        m = new Model(w, s);
        name = "seed " + seed + ", new ExternalSorter(" + w + ", " + s + ")";
    }

    public static void main(String[] args) {
        for (int seed = 0; seed < 3000; seed++) {
            new ModelTest(seed, false).lookBehindEachCall();
        }
        for (int seed = 0; seed < 1000; seed++) {
            new ModelTest(seed, false).drawLooksToo();
        }
        for (int seed = 0; seed < 200; seed++) {
            new ModelTest(seed, true).fillSealAndRead();
        }
        Check.end();
    }

    /** The ten calls that look at the state count too: eleven at a time. */
    private void lookBehindEachCall() {
        for (int call = 0; call + 11 <= CALLS; call += 11) {
            oneCall(call);
            compareState(call);
        }
    }

    /** All 512 calls are drawn, so that many stand between two looks at the state. */
    private void drawLooksToo() {
        for (int call = 0; call < CALLS; call++) {
            if (draw.nextInt(3) == 0) {
                oneLook(call);
            } else {
                oneCall(call);
            }
        }
    }

    /** Lists of a thousand pairs and more, which drawn calls hardly ever come to. */
    private void fillSealAndRead() {
        int call = 0;
        for (int feeding = 8 + draw.nextInt(4); feeding > 0; feeding--) {
            feedMany(call++, 100 + draw.nextInt(101));
        }
        compareState(call);
        due(call, "seal", m.seal(), x.seal());
        for (call += 11; call + 11 <= CALLS; call += 11) {
            readOnce(call);
            compareState(call);
        }
    }

    private int number() {
        switch (draw.nextInt(12)) {
            case 0:
                return draw.nextInt();
            case 1:
                return Integer.MAX_VALUE - draw.nextInt(2);
            case 2:
                return Integer.MIN_VALUE + draw.nextInt(2);
            default:
                return draw.nextInt(keySpan) - keySpan / 2;
        }
    }

    private void due(int call, String what, int want, int got) {
        Check.due(name + ", call " + call + ", " + what, want, got);
    }

    private void oneCall(int call) {
        // Reset and seal are drawn seldom, so that lists grow and rows are read.
        if (draw.nextInt(200) < 3) {
            x.reset();
            m.reset();
            return;
        }
        if (draw.nextInt(16) == 0) {
            due(call, "seal", m.seal(), x.seal());
            return;
        }
        switch (draw.nextInt(6)) {
            case 0:
                int key = number();
                int value = number();
                due(call, "feed", m.feed(key, value), x.feed(key, value));
                break;
            case 1:
                feedMany(call, draw.nextInt(4) == 0 ? draw.nextInt(201) : draw.nextInt(9));
                break;
            case 2:
                illegalCall(call, draw.nextBoolean() ? -1 - draw.nextInt(3) : 201 + draw.nextInt(3));
                break;
            default:
                readOnce(call);
                break;
        }
    }

    private void feedMany(int call, int n) {
        int key = number();
        int step = number();
        int value = number();
        due(call, "feedMany", m.feedMany(key, step, value, n), x.feedMany(key, step, value, n));
    }

    private void readOnce(int call) {
        switch (draw.nextInt(3)) {
            case 0:
                due(call, "nextRow", m.nextRow(), x.nextRow());
                latestKey = m.key();
                break;
            case 1:
                due(call, "nextGroup", m.nextGroup(), x.nextGroup());
                latestKey = m.key();
                break;
            default:
                // Mostly a little further than the reading stands, so that rows are left.
                int to = draw.nextInt(20) == 0 ? number() : latestKey + draw.nextInt(4);
                due(call, "skipTo", m.skipTo(to), x.skipTo(to));
                break;
        }
    }

    /** The model has no such calls: it stays as it is, and so should the object. */
    private void illegalCall(int call, int wrong) {
        String what = name + ", call " + call + ", " + wrong;
        int any = number();
        switch (draw.nextInt(3)) {
            case 0:
                Check.illegal(what + ": feedMany", () -> x.feedMany(any, any, any, wrong));
                break;
            case 1:
                Check.illegal(what + ": group", () -> x.group(wrong));
                break;
            default:
                Check.illegal(what + ": count", () -> x.count(wrong));
                break;
        }
    }

    private void oneLook(int call) {
        int what = draw.nextInt(4);
        switch (draw.nextInt(4)) {
            case 0:
                due(call, "key", m.key(), x.key());
                break;
            case 1:
                due(call, "value", m.value(), x.value());
                break;
            case 2:
                due(call, "group " + what, m.group(what), x.group(what));
                break;
            default:
                due(call, "count " + what, m.count(what), x.count(what));
                break;
        }
    }

    private void compareState(int call) {
        due(call, "key", m.key(), x.key());
        due(call, "value", m.value(), x.value());
        for (int what = 0; what < 4; what++) {
            due(call, "group " + what, m.group(what), x.group(what));
            due(call, "count " + what, m.count(what), x.count(what));
        }
    }
}
