/** Promise 12: TOP, FIRST, LAST of a class and a page; 0 when there is no such thing. */
public final class P12SeenTest {
    private static final int MIN = Integer.MIN_VALUE;
    private static final int MAX = Integer.MAX_VALUE;

    public static void main(String[] args) {
        firstLastAndTop();
        aZeroIsAMarkToo();
        classesApart();
        closedOrNot();
        noneSuch();
        theLastClassAndPage();
        Check.end();
    }

    private static void seenIs(InsertMarks x, int cls, int page, int... want) {
        for (int which = 0; which < want.length; which++) {
            Check.due("seen(" + cls + ", " + page + ", " + which + ")", x.seen(cls, page, which), want[which]);
        }
    }

    private static void firstLastAndTop() {
        InsertMarks x = new InsertMarks(10);
        x.cls(-1, 0, true);
        x.mark(0, 30, 7);
        x.mark(0, 10, 3);
        x.mark(0, 11, 3);
        x.mark(0, 12, 3);
        seenIs(x, 0, 0, 0, 0, 0);
        seenIs(x, 0, 2, 0, 0, 0);
        seenIs(x, 0, 3, 0, 10, 12);
        seenIs(x, 0, 4, 12, 12, 12);
        seenIs(x, 0, 6, 12, 12, 12);
        seenIs(x, 0, 7, 12, 30, 30);
        seenIs(x, 0, 39, 30, 30, 30);
        x.mark(0, MIN, 0);
        x.mark(0, MAX, 39);
        seenIs(x, 0, 0, 0, MIN, MIN);
        seenIs(x, 0, 1, MIN, MIN, MIN);
        seenIs(x, 0, 39, 30, MAX, MAX);
    }

    private static void aZeroIsAMarkToo() {
        InsertMarks x = new InsertMarks(10);
        x.cls(-1, 0, true);
        x.mark(0, 5, 0);
        x.mark(0, 0, 1);
        x.mark(0, 7, 2);
        x.mark(0, 0, 2);
        x.mark(0, 0, 3);
        x.mark(0, 7, 3);
        seenIs(x, 0, 1, 5, 0, 0);
        seenIs(x, 0, 2, 0, 7, 0);
        seenIs(x, 0, 3, 0, 0, 7);
    }

    private static void classesApart() {
        InsertMarks x = new InsertMarks(10);
        x.cls(-1, 0, true);
        x.cls(-1, 0, true);
        x.mark(0, 5, 1);
        x.mark(1, 6, 1);
        x.mark(0, 7, 1);
        seenIs(x, 0, 1, 0, 5, 7);
        seenIs(x, 1, 1, 0, 6, 6);
        seenIs(x, 1, 2, 6, 6, 6);
    }

    private static void closedOrNot() {
        InsertMarks x = new InsertMarks(10);
        x.cls(-1, 0, true);
        x.mark(0, 5, 0);
        x.mark(0, 6, 1);
        x.close();
        seenIs(x, 0, 0, 0, 5, 5);
        seenIs(x, 0, 1, 5, 6, 6);
        x.close();
        seenIs(x, 0, 1, 5, 6, 6);
        Check.due("mark(0, 9, 1)", x.mark(0, 9, 1), -3);
        seenIs(x, 0, 1, 5, 6, 6);
        seenIs(x, 0, 2, 6, 6, 6);
    }

    private static void noneSuch() {
        InsertMarks x = new InsertMarks(10);
        x.cls(-1, 0, true);
        x.mark(0, 5, 0);
        x.mark(0, 5, 39);
        int[] badClasses = {-1, 1, 8, MIN, MAX};
        for (int cls : badClasses) {
            seenIs(x, cls, 1, 0, 0, 0);
        }
        int[] badPages = {-1, 40, 41, MIN, MAX};
        for (int page : badPages) {
            seenIs(x, 0, page, 0, 0, 0);
        }
        int[] badWhich = {-1, 3, 4, MIN, MAX};
        for (int which : badWhich) {
            Check.due("seen(0, 1, " + which + ")", x.seen(0, 1, which), 0);
        }
    }

    private static void theLastClassAndPage() {
        InsertMarks x = new InsertMarks(10);
        for (int cls = 0; cls < 8; cls++) {
            x.cls(-1, 0, true);
        }
        x.mark(7, 5, 38);
        x.mark(7, 6, 39);
        x.mark(7, 7, 39);
        seenIs(x, 7, 39, 5, 6, 7);
        seenIs(x, 6, 39, 0, 0, 0);
        seenIs(x, 8, 39, 0, 0, 0);
        seenIs(x, 7, 40, 0, 0, 0);
    }
}
