/** What the tests share: it prints every answer that is not due and ends with exit code 1 then. */
final class Check {
    /** A call that should be refused. */
    interface Call {
        int answer();
    }

    private static int wrong = 0;
    private static String sentence = "";

    private Check() {
    }

    /** A test of one sentence: what is not due in it is printed with the sentence. */
    static void sentence(String words, Runnable test) {
        sentence = "\"" + words + "\": ";
        try {
            test.run();
        } catch (RuntimeException e) {
            notDue("the test's calls threw " + e);
        }
        sentence = "";
    }

    static void due(String call, int want, int got) {
        if (got != want) {
            notDue(call + " answered " + got + ", due is " + want);
        }
    }

    static void holds(String words, boolean isSo) {
        if (!isSo) {
            notDue(words + " does not hold");
        }
    }

    static void illegal(String call, Call made) {
        try {
            int got = made.answer();
            notDue(call + " answered " + got + ", due is IllegalArgumentException");
        } catch (RuntimeException e) {
            if (e.getClass() != IllegalArgumentException.class) {
                notDue(call + " threw " + e + ", due is IllegalArgumentException");
            }
        }
    }

    private static void notDue(String words) {
        wrong++;
        System.out.println(sentence + words);
    }

    /** All four counts at once, as most tests want them together. */
    static void counts(String when, ExternalSorter x, int pairs, int spilled, int consumed, int runs) {
        due(when + ": count(0)", pairs, x.count(0));
        due(when + ": count(1)", spilled, x.count(1));
        due(when + ": count(2)", consumed, x.count(2));
        due(when + ": count(3)", runs, x.count(3));
    }

    static void rowIs(String when, ExternalSorter x, int key, int value) {
        due(when + ": key()", key, x.key());
        due(when + ": value()", value, x.value());
        noGroup(when, x);
    }

    static void groupIs(String when, ExternalSorter x, int key, int... answers) {
        due(when + ": key()", key, x.key());
        due(when + ": value()", 0, x.value());
        for (int what = 0; what < 4; what++) {
            due(when + ": group(" + what + ")", answers[what], x.group(what));
        }
    }

    static void nothingIsCurrent(String when, ExternalSorter x) {
        rowIs(when, x, 0, 0);
    }

    private static void noGroup(String when, ExternalSorter x) {
        for (int what = 0; what < 4; what++) {
            due(when + ": group(" + what + ")", 0, x.group(what));
        }
    }

    /** Both are looked at, sealed where they are not, and read to the end: all answers are the same. */
    static void sameFromHere(String when, ExternalSorter twin, ExternalSorter x) {
        sameState(when, twin, x);
        due(when + ": then seal()", twin.seal(), x.seal());
        sameState(when + ", sealed", twin, x);
        int rows = twin.count(0) - twin.count(2);
        for (int row = 0; row <= rows; row++) {
            due(when + ": then nextRow()", twin.nextRow(), x.nextRow());
            sameState(when + ", then row " + row, twin, x);
        }
    }

    static void sameState(String when, ExternalSorter twin, ExternalSorter x) {
        due(when + ": key()", twin.key(), x.key());
        due(when + ": value()", twin.value(), x.value());
        for (int what = 0; what < 4; what++) {
            due(when + ": group(" + what + ")", twin.group(what), x.group(what));
            due(when + ": count(" + what + ")", twin.count(what), x.count(what));
        }
    }

    static void end() {
        if (wrong != 0) {
            System.out.println(wrong + " answers are not as due");
            System.exit(1);
        }
    }
}
