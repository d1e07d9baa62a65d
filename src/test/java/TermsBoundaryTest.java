/** A test for each sentence of the document's terms that names a boundary case. */
public final class TermsBoundaryTest {
    private static final int MIN = Integer.MIN_VALUE;
    private static final int MAX = Integer.MAX_VALUE;

    public static void main(String[] args) {
        Check.sentence("used for at most 512 calls after it has been made",
            TermsBoundaryTest::the512thCallAnswers);
        Check.sentence("PAIRS are a key and a value (32 bits with sign each)",
            TermsBoundaryTest::pairsHaveSigns);
        Check.sentence("THE LIST has the pairs that were fed since the latest reset, in their order",
            TermsBoundaryTest::theListBeginsAtTheLatestReset);
        Check.sentence("There is ROOM for W * (S / W + 1) pairs, the quotient rounded down",
            TermsBoundaryTest::roomForEachQuotient);
        Check.sentence("it is FULL with so many",
            TermsBoundaryTest::fullWithTheLastPair);
        Check.sentence("When the work area holds W pairs and another one is fed",
            TermsBoundaryTest::spilledByThePairBehindW);
        Check.sentence("what it holds is sorted and SPILLED: W pairs more were spilled",
            TermsBoundaryTest::spilledInWholeWorkAreas);
        Check.sentence("FEEDING is so from a reset up to sealing; behind that READING",
            TermsBoundaryTest::feedingUpToSealing);
        Check.sentence("ROWS are the list sorted by keys",
            TermsBoundaryTest::rowsOfAnyLength);
        Check.sentence("ROWS are the list sorted by keys (the longest list, the most runs)",
            TermsBoundaryTest::rowsOfTheLongestLists);
        Check.sentence("pairs of one key in the order in which they were fed",
            TermsBoundaryTest::pairsOfOneKeyKeepTheirOrder);
        Check.sentence("A row is CONSUMED by the calls that say so",
            TermsBoundaryTest::otherCallsConsumeNothing);
        Check.sentence("the first that is not consumed is the NEXT one",
            TermsBoundaryTest::nextIsTheFirstNotConsumed);
        Check.sentence("CURRENT is .. nothing (behind a reset, ..)",
            TermsBoundaryTest::nothingBehindAReset);
        Check.sentence("CURRENT is .. nothing (behind .. sealing, ..)",
            TermsBoundaryTest::nothingBehindSealing);
        Check.sentence("CURRENT is .. nothing (behind .. the end)",
            TermsBoundaryTest::nothingBehindTheEnd);
        Check.sentence("Calls that answer SEALED .. change nothing",
            TermsBoundaryTest::sealedChangesNothing);
        Check.sentence("Calls that answer .. FULL .. change nothing",
            TermsBoundaryTest::fullChangesNothing);
        Check.sentence("Calls that answer .. NOT_SEALED change nothing",
            TermsBoundaryTest::notSealedChangesNothing);
        Check.sentence("A GROUP are all rows of the next row's key that are not consumed",
            TermsBoundaryTest::groupOfWhatIsNotConsumed);
        Check.sentence("the sum of their values (32 bits, wrapping)",
            TermsBoundaryTest::sumsWrap);
        Check.sentence("the least and the greatest of them",
            TermsBoundaryTest::leastAndGreatest);
        Check.sentence("In all calls illegal argument: a number is out of its bounds",
            TermsBoundaryTest::illegalArgumentInAllStates);
        Check.sentence("a call that throws changes nothing",
            TermsBoundaryTest::throwingChangesNothing);
        Check.end();
    }

    private static void the512thCallAnswers() {
        ExternalSorter x = new ExternalSorter(1, 2000);
        for (int call = 1; call <= 255; call++) {
            Check.due("call " + call + ", feed", ExternalSorter.OK, x.feed(-call, call));
        }
        Check.due("call 256, seal", ExternalSorter.OK, x.seal());
        for (int call = 257; call <= 511; call++) {
            Check.due("call " + call + ", nextRow", ExternalSorter.ROW, x.nextRow());
        }
        Check.due("call 512, key", -1, x.key());
    }

    private static void pairsHaveSigns() {
        int[] sorted = {MIN, MIN + 1, -1, 0, 1, MAX - 1, MAX};
        for (int w = 1; w <= 8; w++) {
            ExternalSorter x = new ExternalSorter(w, 20);
            for (int k = 0; k < 7; k++) {
                // 3 has no divisor in common with 7, so each comes once, and seldom in its order.
                x.feed(sorted[k * 3 % 7], ~sorted[k * 3 % 7]);
            }
            x.seal();
            for (int key : sorted) {
                x.nextRow();
                Check.rowIs("w " + w, x, key, ~key);
            }
        }
    }

    private static void theListBeginsAtTheLatestReset() {
        ExternalSorter x = new ExternalSorter(2, 7);
        x.feedMany(1, 1, 1, 5);
        x.reset();
        x.feedMany(11, 1, 11, 3);
        x.reset();
        Check.due("pairs behind the reset", 0, x.count(0));
        x.feed(22, 2);
        x.feed(21, 1);
        Check.due("pairs", 2, x.count(0));
        x.seal();
        x.nextRow();
        Check.rowIs("first", x, 21, 1);
        x.nextRow();
        Check.rowIs("second", x, 22, 2);
        Check.due("nextRow", ExternalSorter.END, x.nextRow());
    }

    private static void roomForEachQuotient() {
        roomIs(1, 1, 2);
        roomIs(1, 2, 3);
        roomIs(2, 1, 2);
        roomIs(2, 2, 4);
        roomIs(2, 3, 4);
        roomIs(2, 4, 6);
        roomIs(5, 4, 5);
        roomIs(5, 5, 10);
        roomIs(5, 9, 10);
        roomIs(5, 10, 15);
        roomIs(63, 2000, 63 * 32);
        roomIs(64, 1, 64);
        roomIs(64, 63, 64);
        roomIs(64, 64, 128);
        roomIs(64, 1983, 64 * 31);
        roomIs(64, 1984, 2048);
        roomIs(64, 2000, 2048);
        roomIs(1, 2000, 2001);
    }

    private static void roomIs(int w, int s, int room) {
        ExternalSorter x = new ExternalSorter(w, s);
        int came = 0;
        for (int call = 0; call < 11; call++) {
            came += x.feedMany(0, 0, 0, 200);
        }
        Check.due("W " + w + ", S " + s + ": pairs that came", room, came);
        Check.due("W " + w + ", S " + s + ": count(0)", room, x.count(0));
    }

    private static void fullWithTheLastPair() {
        for (int w = 1; w <= 4; w++) {
            ExternalSorter x = new ExternalSorter(w, 6);
            int room = w * (6 / w + 1);
            for (int k = 1; k <= room; k++) {
                Check.due("w " + w + ", pair " + k, ExternalSorter.OK, x.feed(k, k));
            }
            Check.due("w " + w + ", one more", ExternalSorter.FULL, x.feed(0, 0));
            Check.due("w " + w + ", count(0)", room, x.count(0));
        }
    }

    private static void spilledByThePairBehindW() {
        for (int w : new int[] {1, 2, 3, 63, 64}) {
            ExternalSorter x = new ExternalSorter(w, 2000);
            x.feedMany(0, 0, 0, w - 1);
            Check.counts("w " + w + ", one less than W", x, w - 1, 0, 0, 0);
            x.feed(0, 0);
            Check.counts("w " + w + ", W", x, w, 0, 0, 0);
            x.feedMany(0, 0, 0, 0);
            Check.counts("w " + w + ", W, and none was fed", x, w, 0, 0, 0);
            x.feed(0, 0);
            Check.counts("w " + w + ", one more than W", x, w + 1, w, 0, 1);
        }
    }

    private static void spilledInWholeWorkAreas() {
        ExternalSorter x = new ExternalSorter(3, 9);
        x.feedMany(0, 0, 0, 6);
        Check.counts("2 * W at once", x, 6, 3, 0, 1);
        x.feed(0, 0);
        Check.counts("2 * W + 1", x, 7, 6, 0, 2);
        x.feedMany(0, 0, 0, 200);
        Check.counts("full", x, 12, 9, 0, 3);
        x.feed(0, 0);
        x.feedMany(0, 0, 0, 1);
        Check.counts("more than fit", x, 12, 9, 0, 3);
        x.seal();
        Check.due("spilled behind sealing", 9, x.count(1));
    }

    private static void feedingUpToSealing() {
        for (State state : State.values()) {
            ExternalSorter x = state.make();
            boolean refused = x.nextRow() == ExternalSorter.NOT_SEALED;
            Check.holds(state + ": nextRow is refused while feeding alone", refused != state.reading);
            int seal = state.reading ? ExternalSorter.SEALED : ExternalSorter.OK;
            Check.due(state + ": seal", seal, x.seal());
            Check.due(state + ": feed behind sealing", ExternalSorter.SEALED, x.feed(1, 1));
            x.reset();
            Check.due(state + ": feed behind a reset", ExternalSorter.OK, x.feed(1, 1));
            Check.due(state + ": seal behind a reset", ExternalSorter.OK, x.seal());
        }
    }

    /** Lists of 0, 1, 2, .. pairs, falling: the work area's edges and each count of runs are among them. */
    private static void rowsOfAnyLength() {
        for (int w = 1; w <= 5; w++) {
            for (int pairs = 0; pairs <= 25; pairs++) {
                ExternalSorter x = new ExternalSorter(w, 25);
                x.feedMany(pairs, -1, 0, pairs);
                x.seal();
                for (int key = 1; key <= pairs; key++) {
                    x.nextRow();
                    Check.rowIs("w " + w + ", " + pairs + " pairs", x, key, pairs - key);
                }
                Check.due("w " + w + ", " + pairs + " pairs: nextRow", ExternalSorter.END, x.nextRow());
            }
        }
    }

    /** Falling keys, so that the pair that was fed last has to come through all merging. */
    private static void rowsOfTheLongestLists() {
        int[][] sizes = {{1, 2001}, {64, 2048}};
        for (int[] size : sizes) {
            int w = size[0];
            int pairs = size[1];
            ExternalSorter x = new ExternalSorter(w, 2000);
            for (int call = 0; call < 11; call++) {
                x.feedMany(pairs - 200 * call, -1, 200 * call, 200);
            }
            Check.counts("w " + w + ", full", x, pairs, pairs - w, 0, pairs / w - 1);
            x.seal();
            for (int key = 1; key <= 100; key++) {
                x.nextRow();
                Check.due("w " + w + ": key", key, x.key());
                Check.due("w " + w + ": value", pairs - key, x.value());
            }
            Check.due("w " + w + ": rows below the greatest", pairs - 101, x.skipTo(pairs));
            x.nextRow();
            Check.rowIs("w " + w + ", the greatest", x, pairs, 0);
        }
    }

    private static void pairsOfOneKeyKeepTheirOrder() {
        for (int w = 1; w <= 9; w++) {
            ExternalSorter x = new ExternalSorter(w, 30);
            // Values fall, so that an order by values would be seen.
            for (int k = 0; k < 24; k++) {
                x.feed(k % 3 == 0 ? 5 : -5, -k);
            }
            x.seal();
            for (int k = 0; k < 24; k++) {
                if (k % 3 != 0) {
                    x.nextRow();
                    Check.rowIs("w " + w, x, -5, -k);
                }
            }
            for (int k = 0; k < 24; k += 3) {
                x.nextRow();
                Check.rowIs("w " + w, x, 5, -k);
            }
        }
    }

    private static void otherCallsConsumeNothing() {
        ExternalSorter x = State.ROW.make();
        x.key();
        x.value();
        for (int what = 0; what < 4; what++) {
            x.group(what);
            x.count(what);
        }
        x.skipTo(MIN);
        Check.due("count(2)", 1, x.count(2));
        x.nextRow();
        Check.due("the second row's key", 27, x.key());
    }

    private static void nextIsTheFirstNotConsumed() {
        ExternalSorter x = new ExternalSorter(2, 9);
        x.feedMany(6, -1, 0, 6);
        x.seal();
        x.nextRow();
        x.nextGroup();
        Check.due("behind a row: key", 2, x.key());
        x.nextRow();
        Check.due("behind a group: key", 3, x.key());
        x.skipTo(5);
        x.nextRow();
        Check.due("behind a skip: key", 5, x.key());
        x.skipTo(5);
        x.nextGroup();
        Check.due("behind a skip of none: key", 6, x.key());
    }

    private static void nothingBehindAReset() {
        for (State state : State.values()) {
            ExternalSorter x = state.make();
            x.reset();
            Check.nothingIsCurrent("reset behind " + state, x);
        }
    }

    private static void nothingBehindSealing() {
        for (State state : State.values()) {
            if (!state.reading) {
                ExternalSorter x = state.make();
                Check.nothingIsCurrent(state + ", feeding", x);
                x.seal();
                Check.nothingIsCurrent(state + ", sealed", x);
                Check.due(state + ", consumed", 0, x.count(2));
            }
        }
    }

    private static void nothingBehindTheEnd() {
        ExternalSorter x = new ExternalSorter(2, 7);
        x.feed(3, 33);
        x.seal();
        x.nextRow();
        x.nextRow();
        Check.nothingIsCurrent("the last was a row, nextRow", x);
        ExternalSorter y = new ExternalSorter(2, 7);
        y.feed(3, 33);
        y.seal();
        y.nextGroup();
        y.nextRow();
        Check.nothingIsCurrent("the last was a group, nextRow", y);
        ExternalSorter z = new ExternalSorter(2, 7);
        z.feed(3, 33);
        z.seal();
        z.nextRow();
        z.nextGroup();
        Check.nothingIsCurrent("the last was a row, nextGroup", z);
        z.reset();
        z.feed(3, 33);
        z.seal();
        z.nextGroup();
        z.nextGroup();
        Check.nothingIsCurrent("the last was a group, nextGroup", z);
        z.nextGroup();
        Check.nothingIsCurrent("the end again", z);
    }

    private static void sealedChangesNothing() {
        for (State state : State.values()) {
            if (state.reading) {
                ExternalSorter x = state.make();
                Check.due(state + ": feed", ExternalSorter.SEALED, x.feed(MIN, 9));
                Check.sameState(state + ", feed", state.make(), x);
                for (int n : new int[] {0, 1, 200}) {
                    Check.due(state + ": feedMany", ExternalSorter.SEALED, x.feedMany(MIN, 1, 9, n));
                    Check.sameState(state + ", feedMany", state.make(), x);
                }
                Check.due(state + ": seal", ExternalSorter.SEALED, x.seal());
                Check.sameFromHere(state + ", seal", state.make(), x);
            }
        }
    }

    private static void fullChangesNothing() {
        ExternalSorter x = State.FULL.make();
        Check.due("feed", ExternalSorter.FULL, x.feed(MIN, 9));
        Check.sameState("feed", State.FULL.make(), x);
        Check.due("feed again", ExternalSorter.FULL, x.feed(MAX, 9));
        Check.sameFromHere("feed again", State.FULL.make(), x);
    }

    private static void notSealedChangesNothing() {
        for (State state : State.values()) {
            if (!state.reading) {
                ExternalSorter x = state.make();
                Check.due(state + ": nextRow", ExternalSorter.NOT_SEALED, x.nextRow());
                Check.sameState(state + ", nextRow", state.make(), x);
                Check.due(state + ": nextGroup", ExternalSorter.NOT_SEALED, x.nextGroup());
                Check.sameState(state + ", nextGroup", state.make(), x);
                Check.due(state + ": skipTo", ExternalSorter.NOT_SEALED, x.skipTo(MAX));
                Check.sameFromHere(state + ", skipTo", state.make(), x);
            }
        }
    }

    private static void groupOfWhatIsNotConsumed() {
        for (int consumed = 0; consumed <= 6; consumed++) {
            ExternalSorter x = new ExternalSorter(2, 9);
            x.feedMany(8, 0, 0, 7);
            x.feed(9, 70);
            x.seal();
            for (int row = 0; row < consumed; row++) {
                x.nextRow();
            }
            Check.due("nextGroup", ExternalSorter.GROUP, x.nextGroup());
            int sum = 21 - consumed * (consumed - 1) / 2;
            Check.groupIs(consumed + " rows consumed", x, 8, 7 - consumed, sum, consumed, 6);
            x.nextGroup();
            Check.groupIs("a group of one", x, 9, 1, 70, 70, 70);
        }
    }

    private static void sumsWrap() {
        Check.due("up by 1", MIN, sumOf(MAX, 1));
        Check.due("down by 1", MAX, sumOf(MIN, -1));
        Check.due("twice the greatest", -2, sumOf(MAX, MAX));
        Check.due("twice the least", 0, sumOf(MIN, MIN));
        Check.due("there and back", MAX, sumOf(MAX, 5, -5));
        Check.due("to the edge, not over it", MAX, sumOf(MAX - 1, 1));
        // 5 * (2^31 - 1) is 2 * 2^32 + 2^31 - 5.
        Check.due("twice around", MAX - 4, sumOf(MAX, MAX, MAX, MAX, MAX));
    }

    private static int sumOf(int... values) {
        ExternalSorter x = groupOf(values);
        Check.due("how many", values.length, x.group(0));
        return x.group(1);
    }

    private static ExternalSorter groupOf(int... values) {
        ExternalSorter x = new ExternalSorter(2, 9);
        for (int value : values) {
            x.feed(4, value);
        }
        x.seal();
        x.nextGroup();
        return x;
    }

    private static void leastAndGreatest() {
        extremes(groupOf(3, 9, 5), 3, 9);
        extremes(groupOf(-5, -3, -9), -9, -3);
        extremes(groupOf(9, 3), 3, 9);
        extremes(groupOf(0), 0, 0);
        extremes(groupOf(-7), -7, -7);
        extremes(groupOf(7, 7, 7), 7, 7);
        extremes(groupOf(0, MAX, -1, MIN), MIN, MAX);
        extremes(groupOf(MIN), MIN, MIN);
        extremes(groupOf(MAX), MAX, MAX);
    }

    private static void extremes(ExternalSorter x, int least, int greatest) {
        Check.due("least", least, x.group(2));
        Check.due("greatest", greatest, x.group(3));
    }

    private static void illegalArgumentInAllStates() {
        for (State state : State.values()) {
            ExternalSorter x = state.make();
            for (int n : new int[] {-1, 201, MIN, MAX}) {
                Check.illegal(state + ": feedMany, n " + n, () -> x.feedMany(1, 1, 1, n));
            }
            for (int what : new int[] {-1, 4, MIN, MAX}) {
                Check.illegal(state + ": group(" + what + ")", () -> x.group(what));
                Check.illegal(state + ": count(" + what + ")", () -> x.count(what));
            }
        }
    }

    private static void throwingChangesNothing() {
        for (State state : State.values()) {
            ExternalSorter x = state.make();
            Check.illegal(state + ": feedMany", () -> x.feedMany(MIN, 1, 9, 201));
            Check.sameState(state + ", feedMany of 201", state.make(), x);
            Check.illegal(state + ": feedMany", () -> x.feedMany(MIN, 1, 9, -1));
            Check.sameState(state + ", feedMany of -1", state.make(), x);
            Check.illegal(state + ": group", () -> x.group(4));
            Check.sameState(state + ", group(4)", state.make(), x);
            Check.illegal(state + ": count", () -> x.count(-1));
            Check.sameFromHere(state + ", count(-1)", state.make(), x);
        }
    }
}
