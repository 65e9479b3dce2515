/** What the tests share: answers are compared, wrong ones printed, and counted for the exit code. */
final class Check {
    private static int wrong = 0;

    private Check() {
    }

    static void due(String call, int got, int want) {
        if (got != want) {
            wrong++;
            System.out.println(call + " answered " + got + ", due is " + want);
        }
    }

    /** Compares the first answers of held, and that nothing follows. */
    static void heldAre(String when, InsertMarks x, int... want) {
        for (int k = 0; k < want.length; k++) {
            due(when + ": held(" + k + ")", x.held(k), want[k]);
        }
        due(when + ": held(" + want.length + ")", x.held(want.length), -1);
        due(when + ": count(4)", x.count(4), want.length);
    }

    /** Compares all that placed tells of part k of a page. */
    static void partIs(InsertMarks x, int page, int k, int... want) {
        for (int what = 0; what < want.length; what++) {
            due("placed(" + page + ", " + k + ", " + what + ")", x.placed(page, k, what), want[what]);
        }
    }

    static void noPart(InsertMarks x, int page, int k) {
        partIs(x, page, k, -1, -1, -1, -1);
    }

    /** Compares all that about tells of an insert: rest, first page, latest page, number, parts. */
    static void aboutIs(InsertMarks x, int insert, int... want) {
        for (int what = 0; what < want.length; what++) {
            due("about(" + insert + ", " + what + ")", x.about(insert, what), want[what]);
        }
    }

    static void countsAre(String when, InsertMarks x, int... want) {
        for (int what = 0; what < want.length; what++) {
            due(when + ": count(" + what + ")", x.count(what), want[what]);
        }
    }

    static void end() {
        if (wrong != 0) {
            System.out.println(wrong + " answers are not as due");
            System.exit(1);
        }
    }
}
