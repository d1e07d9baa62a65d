/** A test for each sentence before the promises that names no boundary case, from the first line on. */
public final class PlainSentencesTest {
    private static final int MIN = Integer.MIN_VALUE;
    private static final int MAX = Integer.MAX_VALUE;

    /** Fed to a work area of 3: the runs are 5 1 5, 3 5 1, 1 3 3, and the work area holds 5 2. */
    private static final int[] KEYS = {5, 1, 5, 3, 5, 1, 1, 3, 3, 5, 2};

    public static void main(String[] args) {
        whatItIs();
        terms();
        exceptions();
        Check.end();
    }

    private static void whatItIs() {
        Check.sentence("what is fed fills the work area", PlainSentencesTest::feedingFillsTheWorkArea);
        Check.sentence("full ones are sorted and spilled as runs", PlainSentencesTest::fullOnesAreSpilled);
        Check.sentence("behind sealing all runs are merged, row by row", PlainSentencesTest::mergedRowByRow);
        Check.sentence("or group by group", PlainSentencesTest::mergedGroupByGroup);
        Check.sentence("stably by keys", PlainSentencesTest::mergedStably);
        Check.sentence("An object is used for at most 512 calls after it has been made",
            PlainSentencesTest::anyCallMayBeThe512th);
    }

    private static void terms() {
        Check.sentence("PAIRS are a key and a value", PlainSentencesTest::keysAndValuesStayPaired);
        Check.sentence("THE LIST has the pairs that were fed", PlainSentencesTest::eachObjectHasItsOwnList);
        Check.sentence("The WORK AREA holds W pairs, the SPILL S pairs",
            PlainSentencesTest::workAreaAndSpillHoldSoMany);
        Check.sentence("CURRENT is a row, a group, or nothing", PlainSentencesTest::oneOfThreeIsCurrent);
        Check.sentence("A GROUP ..: how many, the sum .., the least and the greatest of them",
            PlainSentencesTest::groupTellsFour);
    }

    private static void exceptions() {
        Check.sentence("In all calls illegal argument: a number is out of its bounds",
            PlainSentencesTest::numbersWithinTheirBoundsAreLegal);
        Check.sentence("Illegal state: as told", PlainSentencesTest::noCallTellsOfIllegalState);
        Check.sentence("Of several exceptions the one named first is thrown",
            PlainSentencesTest::illegalArgumentIsTheOnlyOneNamed);
    }

    /** Each value is the pair's place in the order of feeding. */
    private static ExternalSorter fed() {
        ExternalSorter x = new ExternalSorter(3, 10);
        for (int place = 0; place < KEYS.length; place++) {
            x.feed(KEYS[place], place);
        }
        return x;
    }

    private static ExternalSorter sealed() {
        ExternalSorter x = fed();
        x.seal();
        return x;
    }

    private static void feedingFillsTheWorkArea() {
        ExternalSorter x = new ExternalSorter(3, 10);
        for (int place = 0; place < 3; place++) {
            Check.due("feed", ExternalSorter.OK, x.feed(KEYS[place], place));
            Check.counts("pair " + place, x, place + 1, 0, 0, 0);
        }
    }

    private static void fullOnesAreSpilled() {
        ExternalSorter x = new ExternalSorter(3, 10);
        int[] runs = {0, 0, 0, 1, 1, 1, 2, 2, 2, 3, 3};
        for (int place = 0; place < KEYS.length; place++) {
            x.feed(KEYS[place], place);
            Check.counts("pair " + place, x, place + 1, 3 * runs[place], 0, runs[place]);
        }
    }

    private static void mergedRowByRow() {
        ExternalSorter x = sealed();
        for (int key : new int[] {1, 1, 1, 2, 3, 3, 3, 5, 5, 5, 5}) {
            Check.due("nextRow", ExternalSorter.ROW, x.nextRow());
            Check.due("key", key, x.key());
        }
        Check.due("behind all rows", ExternalSorter.END, x.nextRow());
    }

    private static void mergedGroupByGroup() {
        ExternalSorter x = sealed();
        int[][] groups = {{1, 3}, {2, 1}, {3, 3}, {5, 4}};
        for (int[] group : groups) {
            Check.due("nextGroup", ExternalSorter.GROUP, x.nextGroup());
            Check.due("key", group[0], x.key());
            Check.due("how many", group[1], x.group(0));
        }
        Check.due("behind all groups", ExternalSorter.END, x.nextGroup());
    }

    private static void mergedStably() {
        ExternalSorter x = sealed();
        for (int place : new int[] {1, 5, 6, 10, 3, 7, 8, 0, 2, 4, 9}) {
            x.nextRow();
            Check.rowIs("pair " + place, x, KEYS[place], place);
        }
    }

    /** 511 calls, the last of which makes a row or a group current. */
    private static ExternalSorter behind511Calls(boolean isGroup) {
        ExternalSorter x = new ExternalSorter(4, 2000);
        for (int call = 1; call <= 500; call++) {
            x.feed(600 - call, call);
        }
        x.seal();
        for (int call = 502; call <= 510; call++) {
            x.nextRow();
        }
        if (isGroup) {
            x.nextGroup();
        } else {
            x.nextRow();
        }
        return x;
    }

    private static void anyCallMayBeThe512th() {
        Check.due("key", 109, behind511Calls(false).key());
        Check.due("value", 491, behind511Calls(false).value());
        Check.due("group(1)", 491, behind511Calls(true).group(1));
        int[] counts = {500, 496, 10, 123};
        for (int what = 0; what < 4; what++) {
            Check.due("count(" + what + ")", counts[what], behind511Calls(false).count(what));
        }
        Check.due("nextRow", ExternalSorter.ROW, behind511Calls(true).nextRow());
        Check.due("nextGroup", ExternalSorter.GROUP, behind511Calls(false).nextGroup());
        Check.due("skipTo", 490, behind511Calls(false).skipTo(MAX));
        Check.due("feed", ExternalSorter.SEALED, behind511Calls(false).feed(1, 1));
        Check.due("feedMany", ExternalSorter.SEALED, behind511Calls(false).feedMany(1, 1, 1, 1));
        Check.due("seal", ExternalSorter.SEALED, behind511Calls(false).seal());
        Check.illegal("count(4)", () -> behind511Calls(false).count(4));
        ExternalSorter x = new ExternalSorter(4, 2000);
        for (int call = 1; call <= 511; call++) {
            Check.due("call " + call + ", feed", ExternalSorter.OK, x.feed(0, 0));
        }
        Check.due("call 512, seal", ExternalSorter.OK, x.seal());
    }

    private static void keysAndValuesStayPaired() {
        ExternalSorter x = new ExternalSorter(4, 40);
        // 7 has no divisor in common with 41, so each key 0 .. 40 comes once.
        for (int k = 0; k < 41; k++) {
            x.feed(k * 7 % 41, 1000 - k * 7 % 41);
        }
        x.seal();
        for (int key = 0; key < 41; key++) {
            x.nextRow();
            Check.rowIs("key " + key, x, key, 1000 - key);
        }
    }

    private static void eachObjectHasItsOwnList() {
        ExternalSorter one = new ExternalSorter(2, 7);
        ExternalSorter other = new ExternalSorter(3, 3);
        one.feedMany(9, -1, 90, 5);
        other.feedMany(1, 1, 10, 4);
        Check.counts("one", one, 5, 4, 0, 2);
        Check.counts("other", other, 4, 3, 0, 1);
        one.seal();
        Check.due("other is feeding", ExternalSorter.NOT_SEALED, other.nextRow());
        other.seal();
        one.nextGroup();
        other.nextRow();
        Check.groupIs("one", one, 5, 1, 94, 94, 94);
        Check.rowIs("other", other, 1, 10);
        other.reset();
        Check.counts("one behind the other's reset", one, 5, 4, 1, 2);
        Check.groupIs("one behind the other's reset", one, 5, 1, 94, 94, 94);
        one.nextRow();
        Check.rowIs("one's second row", one, 6, 93);
    }

    /** All W, each with the S about a multiple of it: where it is full, no whole work area could be spilled. */
    private static void workAreaAndSpillHoldSoMany() {
        for (int w = 1; w <= 64; w++) {
            for (int s : new int[] {1, 3 * w - 1, 3 * w, 3 * w + 1, 2000}) {
                ExternalSorter x = new ExternalSorter(w, s);
                for (int call = 0; call < 11; call++) {
                    x.feedMany(0, 0, 0, 200);
                }
                String name = "W " + w + ", S " + s;
                Check.due(name + ": in the work area", w, x.count(0) - x.count(1));
                Check.due(name + ": in the spill", s - s % w, x.count(1));
                Check.due(name + ": runs", s / w, x.count(3));
            }
        }
    }

    private static void oneOfThreeIsCurrent() {
        ExternalSorter x = sealed();
        Check.nothingIsCurrent("sealed", x);
        x.nextRow();
        Check.rowIs("a row", x, 1, 1);
        x.nextGroup();
        Check.groupIs("a group behind a row", x, 1, 2, 11, 5, 6);
        x.nextRow();
        Check.rowIs("a row behind a group", x, 2, 10);
        x.skipTo(4);
        Check.nothingIsCurrent("skipped", x);
        x.nextGroup();
        Check.groupIs("a group behind a skip", x, 5, 4, 15, 0, 9);
        x.nextRow();
        Check.nothingIsCurrent("the end", x);
    }

    private static void groupTellsFour() {
        ExternalSorter x = new ExternalSorter(2, 20);
        for (int value : new int[] {40, -7, 12, 1000, -300}) {
            x.feed(6, value);
            x.feed(7, -value);
        }
        x.seal();
        x.nextGroup();
        Check.groupIs("key 6", x, 6, 5, 745, -300, 1000);
        x.nextGroup();
        Check.groupIs("key 7", x, 7, 5, -745, -1000, 300);
    }

    /** Keys, steps, values and sizes have no bounds, and n and what are at theirs: nothing is thrown. */
    private static void numbersWithinTheirBoundsAreLegal() {
        for (State state : State.values()) {
            for (int number : new int[] {MIN, -1, 0, 1, MAX}) {
                state.make().feed(number, number);
                state.make().feedMany(number, number, number, 0);
                state.make().feedMany(number, number, number, 200);
                state.make().skipTo(number);
                new ExternalSorter(number, number);
            }
            for (int what = 0; what < 4; what++) {
                state.make().group(what);
                state.make().count(what);
            }
        }
    }

    /** No promise names it, so each call answers in each state, whichever was made before it. */
    private static void noCallTellsOfIllegalState() {
        for (State state : State.values()) {
            ExternalSorter x = state.make();
            for (int round = 0; round < 3; round++) {
                x.key();
                x.value();
                x.nextRow();
                x.nextGroup();
                x.skipTo(0);
                x.feed(0, 0);
                x.feedMany(0, 0, 0, 1);
                x.seal();
            }
            x.reset();
            Check.counts(state + ", reset", x, 0, 0, 0, 0);
        }
    }

    /** Whatever else is unusual in the call, or in the state. */
    private static void illegalArgumentIsTheOnlyOneNamed() {
        for (State state : State.values()) {
            for (int number : new int[] {MIN, -1, 201, MAX}) {
                ExternalSorter x = state.make();
                Check.illegal(state + ": feedMany", () -> x.feedMany(number, number, number, number));
                Check.illegal(state + ": group", () -> x.group(number));
                Check.illegal(state + ": count", () -> x.count(number));
            }
        }
    }
}
