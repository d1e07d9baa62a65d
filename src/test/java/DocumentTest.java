import java.io.IOException;
import java.nio.file.Files;
import java.nio.file.Path;
import java.util.Arrays;

/**
 * Each sentence of the document has a test: the document stands here in its order, piece by piece, with
 * the tests that fail if the piece is broken.
 */
public final class DocumentTest {
    private static final Path DOCUMENT = Path.of("../shared/DOC.md");

    /** Behind a piece that promises nothing. */
    private static final String FREE = "";

    private static final String[][] WHAT_IT_IS = {
        {"A sorter of pairs with little memory: what is fed fills the work area,",
            "PlainSentencesTest.feedingFillsTheWorkArea"},
        {"full ones are sorted and spilled as runs,",
            "PlainSentencesTest.fullOnesAreSpilled"},
        {"and behind sealing all runs are merged, row by row",
            "PlainSentencesTest.mergedRowByRow"},
        {"or group by group,",
            "PlainSentencesTest.mergedGroupByGroup"},
        {"stably by keys.",
            "PlainSentencesTest.mergedStably"},
        {"An object is used for at most 512 calls after it has been made;",
            "PlainSentencesTest.anyCallMayBeThe512th TermsBoundaryTest.the512thCallAnswers"},
        {"what later calls answer is free.", FREE},
    };

    private static final String[][] FACE = {
        {"public final class ExternalSorter {",
            "FaceTest.nothingElse FaceTest.main"},
        {"public static final int OK = 0; public static final int ROW = 1; public static final int GROUP = 2;"
            + " public static final int END = -1; public static final int FULL = -2;"
            + " public static final int SEALED = -3; public static final int NOT_SEALED = -4;",
            "FaceTest.constants"},
        {"public ExternalSorter(int w, int s); public void reset(); public int feed(int key, int value);"
            + " public int feedMany(int key, int step, int value, int n) throws IllegalArgumentException;"
            + " public int seal(); public int nextRow(); public int nextGroup(); public int skipTo(int key);"
            + " public int key(); public int value();"
            + " public int group(int what) throws IllegalArgumentException;"
            + " public int count(int what) throws IllegalArgumentException; }",
            "FaceTest.main"},
    };

    private static final String[][] TERMS = {
        {"PAIRS are a key and a value (32 bits with sign each).",
            "PlainSentencesTest.keysAndValuesStayPaired TermsBoundaryTest.pairsHaveSigns"},
        {"THE LIST has the pairs that were fed since the latest reset, in their order.",
            "TermsBoundaryTest.theListBeginsAtTheLatestReset PlainSentencesTest.eachObjectHasItsOwnList"},
        {"The WORK AREA holds W pairs, the SPILL S pairs.",
            "PlainSentencesTest.workAreaAndSpillHoldSoMany"},
        {"There is ROOM for W * (S / W + 1) pairs, the quotient rounded down;",
            "TermsBoundaryTest.roomForEachQuotient"},
        {"it is FULL with so many.",
            "TermsBoundaryTest.fullWithTheLastPair"},
        {"When the work area holds W pairs and another one is fed,",
            "TermsBoundaryTest.spilledByThePairBehindW"},
        {"what it holds is sorted and SPILLED: W pairs more were spilled.",
            "TermsBoundaryTest.spilledInWholeWorkAreas CountTest.whileFeeding"},
        {"FEEDING is so from a reset up to sealing; behind that READING:",
            "TermsBoundaryTest.feedingUpToSealing"},
        {"ROWS are the list sorted by keys,",
            "TermsBoundaryTest.rowsOfAnyLength TermsBoundaryTest.rowsOfTheLongestLists"},
        {"pairs of one key in the order in which they were fed.",
            "TermsBoundaryTest.pairsOfOneKeyKeepTheirOrder ReadingTest.rowsAreStable"},
        {"A row is CONSUMED by the calls that say so;",
            "TermsBoundaryTest.otherCallsConsumeNothing"},
        {"the first that is not consumed is the NEXT one.",
            "TermsBoundaryTest.nextIsTheFirstNotConsumed"},
        {"CURRENT is a row, a group, or nothing",
            "PlainSentencesTest.oneOfThreeIsCurrent"},
        {"(behind a reset,",
            "TermsBoundaryTest.nothingBehindAReset"},
        {"sealing,",
            "TermsBoundaryTest.nothingBehindSealing"},
        {"the end).",
            "TermsBoundaryTest.nothingBehindTheEnd"},
        {"Calls that answer SEALED,",
            "TermsBoundaryTest.sealedChangesNothing"},
        {"FULL",
            "TermsBoundaryTest.fullChangesNothing"},
        {"or NOT_SEALED change nothing.",
            "TermsBoundaryTest.notSealedChangesNothing FeedingTest.refusedCallsChangeNothing"},
        {"A GROUP are all rows of the next row's key that are not consumed: how many,",
            "TermsBoundaryTest.groupOfWhatIsNotConsumed PlainSentencesTest.groupTellsFour"},
        {"the sum of their values (32 bits, wrapping),",
            "TermsBoundaryTest.sumsWrap ReadingTest.groupsWrapTheirSum"},
        {"the least and the greatest of them.",
            "TermsBoundaryTest.leastAndGreatest ReadingTest.groupsTellAll"},
        {"In all calls illegal argument: a number is out of its bounds.",
            "TermsBoundaryTest.illegalArgumentInAllStates PlainSentencesTest.numbersWithinTheirBoundsAreLegal"},
        {"Illegal state: as told.",
            "PlainSentencesTest.noCallTellsOfIllegalState"},
        {"Of several exceptions the one named first is thrown;",
            "PlainSentencesTest.illegalArgumentIsTheOnlyOneNamed"},
        {"a call that throws changes nothing.",
            "TermsBoundaryTest.throwingChangesNothing"},
    };

    private static final String[][] PROMISES_1_TO_5 = {
        {"`ExternalSorter(int w, int s)`: W (below 1 counts as 1,",
            "PromisesBoundaryTest.workBelow1"},
        {"above 64 as 64)",
            "PromisesBoundaryTest.workAbove64 NewAndResetTest.workAreaIs"},
        {"and S (below 1 counts as 1,",
            "PromisesBoundaryTest.spillBelow1"},
        {"above 2000 as 2000);",
            "PromisesBoundaryTest.spillAbove2000 NewAndResetTest.roomIs"},
        {"an empty list, feeding.",
            "PromisesBoundaryTest.newIsEmptyAndFeeding NewAndResetTest.newObjectIsEmptyAndFeeding"},
        {"`void reset()`: The list is empty, feeding;",
            "PromisesBoundaryTest.resetEmptiesTheList NewAndResetTest.resetWhileFeeding"
            + " NewAndResetTest.resetWhileReading NewAndResetTest.resetOfAFullOne"},
        {"nothing was spilled.",
            "PromisesBoundaryTest.resetForgetsSpills"},
        {"`int feed(int key, int value)`: A pair comes: OK,",
            "PromisesBoundaryTest.feedOk FeedingTest.feedAnswers"},
        {"SEALED,",
            "PromisesBoundaryTest.feedSealed"},
        {"FULL.",
            "PromisesBoundaryTest.feedFull"},
        {"`int feedMany(int key, int step, int value, int n) throws IllegalArgumentException`:"
            + " n pairs (0 .. 200) come,",
            "PromisesBoundaryTest.feedManyOf0To200 FeedingTest.feedManyAnswers"},
        {"key + k * step (32 bits, wrapping)",
            "PromisesBoundaryTest.feedManyWrapsKeys FeedingTest.feedManyWraps"},
        {"and value + k for k = 0, 1, ..:",
            "PromisesBoundaryTest.feedManyWrapsValues FeedingTest.feedManyMakesItsPairs"},
        {"how many came before it was FULL;",
            "PromisesBoundaryTest.feedManyUpToFull"},
        {"SEALED.",
            "PromisesBoundaryTest.feedManySealed"},
        {"Illegal argument.",
            "PromisesBoundaryTest.feedManyIllegal FeedingTest.feedManyRefusesWrongNumbers"},
        {"`int seal()`: Reading begins: OK,",
            "PromisesBoundaryTest.sealOk FeedingTest.sealAnswers"},
        {"SEALED.",
            "PromisesBoundaryTest.sealSealed"},
    };

    private static final String[][] PROMISES_6_TO_8 = {
        {"`int nextRow()`: The next row is consumed, and current: ROW;",
            "PromisesBoundaryTest.nextRowRow ReadingTest.rowsAreStable"},
        {"END;",
            "PromisesBoundaryTest.nextRowEnd ReadingTest.rowsEnd"},
        {"NOT_SEALED.",
            "PromisesBoundaryTest.nextRowNotSealed"},
        {"`int nextGroup()`: The next row's group is consumed, and current: GROUP;",
            "PromisesBoundaryTest.nextGroupGroup ReadingTest.groupsTellAll ReadingTest.groupOfTheRest"},
        {"END;",
            "PromisesBoundaryTest.nextGroupEnd"},
        {"NOT_SEALED.",
            "PromisesBoundaryTest.nextGroupNotSealed"},
        {"`int skipTo(int key)`: Rows whose key is below this one are consumed,",
            "PromisesBoundaryTest.skipToConsumesBelow ReadingTest.skippingAtTheEdges"},
        {"and nothing is current:",
            "PromisesBoundaryTest.skipToLeavesNothingCurrent"},
        {"how many;",
            "PromisesBoundaryTest.skipToTellsHowMany ReadingTest.skipping"},
        {"NOT_SEALED.",
            "PromisesBoundaryTest.skipToNotSealed"},
    };

    private static final String[][] PROMISES_9_TO_12 = {
        {"`int key()`: The key of what is current;",
            "PromisesBoundaryTest.keyOfRowAndGroup"},
        {"0 without.",
            "PromisesBoundaryTest.keyWithout"},
        {"`int value()`: The value of the row that is current;",
            "PromisesBoundaryTest.valueOfRow"},
        {"0 without.",
            "PromisesBoundaryTest.valueWithout"},
        {"`int group(int what) throws IllegalArgumentException`: Of the group that is current:"
            + " what = 0 how many, 1 the sum, 2 the least, 3 the greatest value;",
            "PromisesBoundaryTest.groupOfGroup"},
        {"0 without.",
            "PromisesBoundaryTest.groupWithout"},
        {"Illegal argument.",
            "PromisesBoundaryTest.groupIllegal ReadingTest.wrongNumbers"},
        {"`int count(int what) throws IllegalArgumentException`: What = 0 how many pairs the list has,",
            "PromisesBoundaryTest.countPairs"},
        {"1 how many were spilled,",
            "PromisesBoundaryTest.countSpilled"},
        {"2 how many rows are consumed,",
            "PromisesBoundaryTest.countConsumed"},
        {"3 how many runs were spilled;",
            "PromisesBoundaryTest.countRunsWhileFeeding CountTest.whileFeeding"},
        {"behind sealing, how many runs",
            "CountTest.runsOfGroupsAndSkips"},
        {"(what the work area holds is one, too)",
            "PromisesBoundaryTest.countTheWorkAreaAsARun CountTest.withoutSpill"},
        {"still have rows.",
            "PromisesBoundaryTest.countRunsWithRows CountTest.runsThatStillHaveRows"},
        {"Illegal argument.",
            "PromisesBoundaryTest.countIllegal CountTest.wrongNumbers"},
    };

    private static final String[][] NOT_PROMISED = {
        {"How the state is held inside the object is free, as are the speed of each call, the text of"
            + " toString and the behaviour of equals and hashCode.", FREE},
        {"Use of one object from several threads at once is not promised to be safe.", FREE},
        {"Nothing is promised beyond the answers and state changes described above, and nothing about an"
            + " object after its 512th call.", FREE},
    };

    private static final String[][][] PIECES = {
        WHAT_IT_IS, FACE, TERMS, PROMISES_1_TO_5, PROMISES_6_TO_8, PROMISES_9_TO_12, NOT_PROMISED,
    };

    public static void main(String[] args) throws IOException, ReflectiveOperationException {
        StringBuilder all = new StringBuilder();
        for (String[][] part : PIECES) {
            for (String[] piece : part) {
                all.append(piece[0]).append(' ');
                for (String name : piece[1].split(" ")) {
                    Check.holds(piece[0] + " has the test " + name + ":", name.equals(FREE) || isTest(name));
                }
            }
        }
        if (Files.exists(DOCUMENT)) {
            compare(document().split("\\s+"), all.toString().split("\\s+"));
        } else {
            System.out.println("not compared, as it is not there: " + DOCUMENT);
        }
        Check.end();
    }

    private static boolean isTest(String name) throws ReflectiveOperationException {
        String[] parts = name.split("\\.");
        return Arrays.stream(Class.forName(parts[0]).getDeclaredMethods())
            .anyMatch(method -> method.getName().equals(parts[1]));
    }

    /** Without its headings and the fences of its blocks: they are no sentences. */
    private static String document() throws IOException {
        StringBuilder words = new StringBuilder();
        for (String line : Files.readAllLines(DOCUMENT)) {
            if (!line.startsWith("#") && !line.startsWith("```")) {
                words.append(line).append(' ');
            }
        }
        return words.toString().trim();
    }

    private static void compare(String[] document, String[] pieces) {
        int place = Arrays.mismatch(document, pieces);
        if (place >= 0) {
            int from = Math.max(0, place - 5);
            int to = Math.min(document.length, place + 5);
            String words = String.join(" ", Arrays.copyOfRange(document, from, Math.max(from, to)));
            Check.holds("the document's words \"" + words + "\" stand here in their place:", false);
        }
    }
}
