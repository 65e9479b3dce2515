/** Terms: marks: FIRST, LAST and TOP of a class and a page, and where there is none. */
public final class TermsMarksTest {
    private static final int MIN = Integer.MIN_VALUE;
    private static final int MAX = Integer.MAX_VALUE;

    public static void main(String[] args) {
        ofAPageThatIsNotClosed();
        anyIntIsAValue();
        threeHundredAtMost();
        threeHundredOfAllClasses();
        firstIsTheFirstToldForThatPage();
        lastIsTheLastTold();
        oneMarkIsBoth();
        topIsTheLastOfThePageBefore();
        noneIsAsTop();
        noneForManyPages();
        beforePageZeroItIsZero();
        aMarkToldLaterForAnEarlierPage();
        Check.end();
    }

    private static void seenIs(InsertMarks x, int cls, int page, int... want) {
        for (int which = 0; which < want.length; which++) {
            Check.due("seen(" + cls + ", " + page + ", " + which + ")", x.seen(cls, page, which), want[which]);
        }
    }

    private static InsertMarks oneClass() {
        InsertMarks x = new InsertMarks(10);
        x.cls(-1, 0, true);
        return x;
    }

    /** "MARKS of a class and a page that is not closed" */
    private static void ofAPageThatIsNotClosed() {
        InsertMarks x = oneClass();
        Check.due("page 0, open", x.mark(0, 5, 0), 1);
        x.close();
        Check.due("page 0, closed", x.mark(0, 6, 0), -3);
        Check.due("page 1, open", x.mark(0, 7, 1), 2);
        seenIs(x, 0, 0, 0, 5, 5);
        seenIs(x, 0, 1, 5, 7, 7);
    }

    /** "have a value, any int" */
    private static void anyIntIsAValue() {
        int[] values = {MIN, MIN + 1, -4, -3, -2, -1, 0, 1, MAX - 1, MAX};
        for (int v : values) {
            InsertMarks x = oneClass();
            Check.due("mark(0, " + v + ", 0)", x.mark(0, v, 0), 1);
            seenIs(x, 0, 0, 0, v, v);
            seenIs(x, 0, 1, v, v, v);
        }
    }

    /** "at most 300": the last is taken, one more is not. */
    private static void threeHundredAtMost() {
        InsertMarks x = oneClass();
        for (int i = 1; i <= 299; i++) {
            Check.due("mark number " + i, x.mark(0, i, 0), i);
        }
        Check.due("the last", x.mark(0, 300, 0), 300);
        Check.due("one more", x.mark(0, 301, 0), -4);
        Check.due("one more on another page", x.mark(0, 301, 39), -4);
        Check.due("count(2)", x.count(2), 300);
        seenIs(x, 0, 0, 0, 1, 300);
        seenIs(x, 0, 39, 300, 300, 300);
    }

    private static void threeHundredOfAllClasses() {
        InsertMarks x = oneClass();
        x.cls(-1, 0, true);
        for (int i = 1; i <= 300; i++) {
            x.mark(i % 2, i, i % 40);
        }
        Check.due("class 0", x.mark(0, 5, 0), -4);
        Check.due("class 1", x.mark(1, 5, 0), -4);
        Check.due("count(2)", x.count(2), 300);
    }

    /** "its FIRST is that of the first mark told for that page" */
    private static void firstIsTheFirstToldForThatPage() {
        InsertMarks x = oneClass();
        x.mark(0, 9, 2);
        x.mark(0, 3, 1);
        x.mark(0, 4, 2);
        x.mark(0, 2, 1);
        Check.due("seen(0, 1, 1)", x.seen(0, 1, 1), 3);
        Check.due("seen(0, 2, 1)", x.seen(0, 2, 1), 9);
    }

    /** "its LAST that of the last one", be it more or less than the others. */
    private static void lastIsTheLastTold() {
        InsertMarks x = oneClass();
        x.mark(0, 3, 1);
        x.mark(0, 9, 1);
        x.mark(0, 5, 1);
        Check.due("seen(0, 1, 2)", x.seen(0, 1, 2), 5);
        x.mark(0, 5, 2);
        Check.due("after one of another page", x.seen(0, 1, 2), 5);
    }

    private static void oneMarkIsBoth() {
        InsertMarks x = oneClass();
        x.mark(0, 8, 39);
        seenIs(x, 0, 39, 0, 8, 8);
        seenIs(x, 0, 38, 0, 0, 0);
    }

    /** "TOP the LAST of the page before" */
    private static void topIsTheLastOfThePageBefore() {
        InsertMarks x = oneClass();
        x.mark(0, 1, 4);
        x.mark(0, 2, 4);
        x.mark(0, 3, 5);
        x.mark(0, 4, 5);
        seenIs(x, 0, 4, 0, 1, 2);
        seenIs(x, 0, 5, 2, 3, 4);
        seenIs(x, 0, 6, 4, 4, 4);
    }

    /** "where there is none, FIRST and LAST are as TOP" */
    private static void noneIsAsTop() {
        InsertMarks x = oneClass();
        x.cls(-1, 0, true);
        x.mark(0, 1, 0);
        x.mark(0, 2, 0);
        x.mark(1, 7, 1);
        seenIs(x, 0, 1, 2, 2, 2);
        seenIs(x, 1, 0, 0, 0, 0);
    }

    private static void noneForManyPages() {
        InsertMarks x = oneClass();
        x.mark(0, -6, 0);
        seenIs(x, 0, 1, -6, -6, -6);
        seenIs(x, 0, 38, -6, -6, -6);
        seenIs(x, 0, 39, -6, -6, -6);
    }

    /** "before page 0 it is 0" */
    private static void beforePageZeroItIsZero() {
        InsertMarks x = oneClass();
        for (int page = 0; page < 40; page++) {
            seenIs(x, 0, page, 0, 0, 0);
        }
        x.mark(0, 5, 0);
        Check.due("seen(0, 0, 0)", x.seen(0, 0, 0), 0);
    }

    private static void aMarkToldLaterForAnEarlierPage() {
        InsertMarks x = oneClass();
        x.mark(0, 5, 3);
        seenIs(x, 0, 3, 0, 5, 5);
        x.mark(0, 6, 1);
        seenIs(x, 0, 2, 6, 6, 6);
        seenIs(x, 0, 3, 6, 5, 5);
        seenIs(x, 0, 4, 5, 5, 5);
    }
}
