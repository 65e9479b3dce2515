/** Terms: to close a page: what is gone through, in which order, and what becomes of each insert. */
public final class TermsClosingTest {
    public static void main(String[] args) {
        nothingToGoThrough();
        toldForItAndEarlierButNotLater();
        onlyThoseWithARest();
        theOthersByTheirNumbers();
        goneThroughBeforeTheOthers();
        inTheOrderOfThePageBefore();
        freeOfTheClassIsTheLesser();
        freeOfThePageIsTheLesser();
        freeIsNotBelowZero();
        heldBehindOneThatIsHeldWholly();
        heldBehindOneThatIsHeldInPart();
        notHeldBehindAnotherClass();
        notHeldBehindOneThatIsPlaced();
        holdsOnThisPageAlone();
        restIsExactlyFree();
        freeIsAsMuchAsTheLeastPart();
        whatWouldBeLeftIsAsMuch();
        cutAgainAndAgain();
        overWhenNothingStands();
        notOverBesideOneUnitOfAnotherClass();
        cutRatherThanOver();
        overOfARestThatCanNotBeCut();
        overIsNotHeld();
        numbersByOrderOfPlacing();
        numbersAnewOnEachPage();
        numbersOnAndOn();
        numberComesWithTheFirstPart();
        Check.end();
    }

    private static void nothingToGoThrough() {
        InsertMarks x = new InsertMarks(10);
        Check.due("close() without a class", x.close(), 0);
        x.cls(-1, 0, true);
        Check.due("close() without an insert", x.close(), 0);
        Check.noPart(x, 0, 0);
        Check.due("used(1, -1)", x.used(1, -1), 0);
        Check.due("used(1, 0)", x.used(1, 0), 0);
        Check.heldAre("nothing is held", x);
    }

    /** "all inserts that were told for it or for an earlier page" */
    private static void toldForItAndEarlierButNotLater() {
        InsertMarks x = new InsertMarks(10);
        x.cls(-1, 0, true);
        x.insert(0, 6, 0);
        x.insert(0, 5, 0);
        x.insert(0, 1, 1);
        x.insert(0, 1, 2);
        Check.due("close() of page 0", x.close(), 1);
        Check.heldAre("told for page 0", x, 1);
        Check.due("close() of page 1", x.close(), 2);
        Check.partIs(x, 1, 0, 1, 5, 1, 0);
        Check.partIs(x, 1, 1, 2, 1, 2, 0);
        Check.noPart(x, 1, 2);
        Check.heldAre("told for page 2 is not held", x);
        Check.due("close() of page 2", x.close(), 1);
    }

    /** "and have a rest": what is placed or taken back is not gone through again. */
    private static void onlyThoseWithARest() {
        InsertMarks x = new InsertMarks(10);
        x.cls(-1, 0, true);
        x.insert(0, 10, 0);
        x.insert(0, 3, 1);
        x.insert(0, 4, 1);
        x.cancel(1);
        Check.due("close() of page 0", x.close(), 1);
        Check.due("close() of page 1", x.close(), 1);
        Check.partIs(x, 1, 0, 2, 4, 1, 0);
        Check.due("close() of page 2", x.close(), 0);
        Check.heldAre("nothing is held", x);
    }

    /** "then the others, by their numbers" */
    private static void theOthersByTheirNumbers() {
        InsertMarks x = new InsertMarks(10);
        x.cls(-1, 0, true);
        x.cls(-1, 0, true);
        x.insert(1, 3, 1);
        x.insert(0, 3, 1);
        x.close();
        x.insert(1, 3, 1);
        Check.due("close()", x.close(), 3);
        Check.partIs(x, 1, 0, 0, 3, 1, 0);
        Check.partIs(x, 1, 1, 1, 3, 1, 0);
        Check.partIs(x, 1, 2, 2, 3, 2, 0);
    }

    /** "first those that were gone through when the page before was closed", whatever their numbers. */
    private static void goneThroughBeforeTheOthers() {
        InsertMarks x = new InsertMarks(10);
        x.cls(-1, 0, true);
        x.cls(-1, 0, true);
        x.insert(1, 2, 1);
        x.insert(0, 10, 0);
        x.insert(0, 9, 0);
        Check.due("close() of page 0", x.close(), 1);
        Check.due("close() of page 1", x.close(), 1);
        Check.partIs(x, 1, 0, 2, 9, 1, 0);
        Check.heldAre("the lower number came later", x, 0);
    }

    /** "in that order": 4 was gone through before 0, and so it stays, though its number is higher. */
    private static void inTheOrderOfThePageBefore() {
        InsertMarks x = new InsertMarks(10);
        x.cls(-1, 0, true);
        x.cls(-1, 0, true);
        x.cls(-1, 0, true);
        x.insert(0, 6, 1);
        x.insert(1, 6, 1);
        x.insert(2, 10, 0);
        x.insert(2, 10, 0);
        x.insert(1, 6, 0);
        Check.due("close() of page 0", x.close(), 1);
        Check.heldAre("page 0", x, 3, 4);
        Check.due("close() of page 1", x.close(), 1);
        Check.heldAre("page 1", x, 4, 0, 1);
        Check.due("close() of page 2", x.close(), 1);
        Check.partIs(x, 2, 0, 4, 6, 1, 0);
        Check.heldAre("page 2", x, 0, 1);
    }

    /** "FREE is the lesser one of its class's room less what of the class stands on this page" */
    private static void freeOfTheClassIsTheLesser() {
        InsertMarks x = new InsertMarks(100);
        x.cls(10, 0, true);
        x.cls(-1, 0, true);
        x.insert(1, 50, 0);
        x.insert(0, 7, 0);
        x.insert(0, 3, 0);
        x.insert(0, 1, 0);
        x.insert(1, 40, 0);
        Check.due("close()", x.close(), 4);
        Check.due("used(0, 0)", x.used(0, 0), 10);
        Check.due("used(0, -1)", x.used(0, -1), 100);
        Check.heldAre("the class is full", x, 3);
    }

    /** "and of the page's room less what stands there of all classes" */
    private static void freeOfThePageIsTheLesser() {
        InsertMarks x = new InsertMarks(10);
        x.cls(8, 0, true);
        x.cls(8, 0, true);
        x.insert(0, 7, 0);
        x.insert(1, 3, 0);
        x.insert(0, 1, 0);
        x.insert(1, 1, 0);
        Check.due("close()", x.close(), 2);
        Check.heldAre("the page is full", x, 2, 3);
    }

    /** "(not below 0)": where more stands than there is room for, nothing more is placed. */
    private static void freeIsNotBelowZero() {
        InsertMarks x = new InsertMarks(10);
        x.cls(5, 0, true);
        x.cls(-1, 1, true);
        x.insert(0, 10000, 0);
        x.insert(0, 1, 0);
        x.insert(1, 10000, 0);
        Check.due("close(), far too much stands there", x.close(), 1);
        Check.due("used(0, -1)", x.used(0, -1), 10000);
        Check.aboutIs(x, 1, 1, -1, -1, -1, 0);
        Check.aboutIs(x, 2, 10000, -1, -1, -1, 0);
    }

    /** "It is HELD, when one of its class gone through before it is held on this page (wholly ..)" */
    private static void heldBehindOneThatIsHeldWholly() {
        InsertMarks x = new InsertMarks(10);
        x.cls(-1, 0, true);
        x.insert(0, 9, 0);
        x.insert(0, 2, 0);
        x.insert(0, 1, 0);
        Check.due("close()", x.close(), 1);
        Check.heldAre("the last would fit", x, 1, 2);
    }

    /** "(.. or in part)": the page has room for 6 still, the class behind its cut insert has none. */
    private static void heldBehindOneThatIsHeldInPart() {
        InsertMarks x = new InsertMarks(10);
        x.cls(4, 2, true);
        x.insert(0, 6, 0);
        x.insert(0, 1, 0);
        Check.due("close() of page 0", x.close(), 1);
        Check.heldAre("page 0", x, 0, 1);
        Check.due("close() of page 1", x.close(), 2);
        Check.partIs(x, 1, 0, 0, 2, 1, 0);
        Check.partIs(x, 1, 1, 1, 1, 1, 0);
    }

    /** "one of its class": another class goes on. */
    private static void notHeldBehindAnotherClass() {
        InsertMarks x = new InsertMarks(10);
        x.cls(-1, 0, true);
        x.cls(-1, 0, true);
        x.insert(0, 8, 0);
        x.insert(0, 3, 0);
        x.insert(1, 2, 0);
        Check.due("close()", x.close(), 2);
        Check.partIs(x, 0, 1, 2, 2, 1, 0);
        Check.heldAre("class 0 alone", x, 1);
    }

    private static void notHeldBehindOneThatIsPlaced() {
        InsertMarks x = new InsertMarks(10);
        x.cls(-1, 0, true);
        x.insert(0, 4, 0);
        x.insert(0, 4, 0);
        x.insert(0, 2, 0);
        Check.due("close()", x.close(), 3);
        Check.heldAre("all are placed", x);
    }

    /** "is held on this page": what was held on the page before holds nobody any more. */
    private static void holdsOnThisPageAlone() {
        InsertMarks x = new InsertMarks(10);
        x.cls(-1, 0, true);
        x.insert(0, 6, 0);
        x.insert(0, 6, 0);
        x.insert(0, 4, 1);
        Check.due("close() of page 0", x.close(), 1);
        Check.due("close() of page 1", x.close(), 2);
        Check.heldAre("page 1", x);
    }

    /** "when its rest is FREE or less, the rest is placed" */
    private static void restIsExactlyFree() {
        InsertMarks x = new InsertMarks(10);
        x.cls(-1, 1, true);
        x.insert(0, 10, 0);
        x.insert(0, 9, 1);
        x.insert(0, 1, 1);
        Check.due("close() of page 0", x.close(), 1);
        Check.partIs(x, 0, 0, 0, 10, 1, 0);
        Check.due("close() of page 1", x.close(), 2);
        Check.due("used(1, -1)", x.used(1, -1), 10);
        Check.heldAre("page 1", x);
    }

    /** "FREE as well as what would be left are as much at least": FREE at the edge. */
    private static void freeIsAsMuchAsTheLeastPart() {
        InsertMarks x = new InsertMarks(10);
        x.cls(-1, 0, true);
        x.cls(-1, 4, true);
        x.insert(0, 6, 0);
        x.insert(1, 9, 0);
        Check.due("close(), FREE is 4", x.close(), 2);
        Check.partIs(x, 0, 1, 1, 4, 1, 0);
        InsertMarks y = new InsertMarks(10);
        y.cls(-1, 0, true);
        y.cls(-1, 4, true);
        y.insert(0, 7, 0);
        y.insert(1, 9, 0);
        Check.due("close(), FREE is 3", y.close(), 1);
        Check.aboutIs(y, 1, 9, -1, -1, -1, 0);
    }

    /** The same sentence: what would be left at the edge. */
    private static void whatWouldBeLeftIsAsMuch() {
        InsertMarks x = new InsertMarks(10);
        x.cls(-1, 0, true);
        x.cls(-1, 4, true);
        x.insert(0, 5, 0);
        x.insert(1, 9, 0);
        Check.due("close(), 4 would be left", x.close(), 2);
        Check.partIs(x, 0, 1, 1, 5, 1, 0);
        Check.due("about(1, 0)", x.about(1, 0), 4);
        InsertMarks y = new InsertMarks(10);
        y.cls(-1, 0, true);
        y.cls(-1, 4, true);
        y.insert(0, 5, 0);
        y.insert(1, 8, 0);
        Check.due("close(), 3 would be left", y.close(), 1);
        Check.aboutIs(y, 1, 8, -1, -1, -1, 0);
    }

    private static void cutAgainAndAgain() {
        InsertMarks x = new InsertMarks(5);
        x.cls(-1, 5, true);
        x.insert(0, 20, 0);
        for (int page = 0; page < 4; page++) {
            Check.due("close() of page " + page, x.close(), 1);
            Check.partIs(x, page, 0, 0, 5, 1, 0);
            Check.aboutIs(x, 0, 15 - 5 * page, 0, page, 1, page + 1);
        }
        Check.heldAre("all is placed", x);
    }

    /** "Otherwise, when nothing stands on this page: its rest is placed all the same, and is OVER." */
    private static void overWhenNothingStands() {
        InsertMarks x = new InsertMarks(10);
        x.cls(-1, 0, true);
        x.insert(0, 11, 0);
        x.insert(0, 10, 1);
        Check.due("close() of page 0", x.close(), 1);
        Check.partIs(x, 0, 0, 0, 11, 1, 1);
        Check.aboutIs(x, 0, 0, 0, 0, 1, 1);
        Check.due("close() of page 1", x.close(), 1);
        Check.partIs(x, 1, 0, 1, 10, 1, 0);
    }

    /** "Otherwise it is held." */
    private static void notOverBesideOneUnitOfAnotherClass() {
        InsertMarks x = new InsertMarks(10);
        x.cls(-1, 0, true);
        x.cls(-1, 0, true);
        x.insert(1, 1, 0);
        x.insert(0, 10, 0);
        Check.due("close() of page 0", x.close(), 1);
        Check.heldAre("page 0", x, 1);
        Check.due("close() of page 1", x.close(), 1);
        Check.partIs(x, 1, 0, 1, 10, 1, 0);
    }

    private static void cutRatherThanOver() {
        InsertMarks x = new InsertMarks(10);
        x.cls(-1, 5, true);
        x.insert(0, 15, 0);
        x.insert(0, 14, 2);
        Check.due("close() of page 0", x.close(), 1);
        Check.partIs(x, 0, 0, 0, 10, 1, 0);
        Check.due("close() of page 1", x.close(), 1);
        Check.partIs(x, 1, 0, 0, 5, 1, 0);
        Check.due("close() of page 2, 4 would be left", x.close(), 1);
        Check.partIs(x, 2, 0, 1, 14, 1, 1);
    }

    private static void overOfARestThatCanNotBeCut() {
        InsertMarks x = new InsertMarks(10);
        x.cls(-1, 5, true);
        x.insert(0, 24, 0);
        Check.due("close() of page 0", x.close(), 1);
        Check.due("close() of page 1", x.close(), 1);
        Check.partIs(x, 0, 0, 0, 10, 1, 0);
        Check.partIs(x, 1, 0, 0, 14, 1, 1);
        Check.aboutIs(x, 0, 0, 0, 1, 1, 2);
    }

    /** What is OVER is placed wholly, and leaves to other classes what it left of the page. */
    private static void overIsNotHeld() {
        InsertMarks x = new InsertMarks(10);
        x.cls(2, 0, true);
        x.cls(-1, 0, true);
        x.insert(0, 3, 0);
        x.insert(1, 7, 0);
        x.insert(1, 1, 0);
        Check.due("close()", x.close(), 2);
        Check.partIs(x, 0, 0, 0, 3, 1, 1);
        Check.partIs(x, 0, 1, 1, 7, 1, 0);
        Check.heldAre("page 0", x, 2);
    }

    /** "A number comes to an insert with its first part, in the order in which they are placed" */
    private static void numbersByOrderOfPlacing() {
        InsertMarks x = new InsertMarks(10);
        x.cls(-1, 0, false);
        x.insert(0, 4, 1);
        x.insert(0, 6, 0);
        x.insert(0, 6, 0);
        x.close();
        x.close();
        Check.due("about(1, 3)", x.about(1, 3), 1);
        Check.due("about(2, 3)", x.about(2, 3), 2);
        Check.due("about(0, 3)", x.about(0, 3), 3);
    }

    /** "one more than the class had last (on this page ..)": 1 again, and apart for each class. */
    private static void numbersAnewOnEachPage() {
        InsertMarks x = new InsertMarks(100);
        x.cls(-1, 0, true);
        x.cls(-1, 0, true);
        x.insert(0, 1, 0);
        x.insert(0, 1, 0);
        x.insert(1, 1, 0);
        x.insert(0, 1, 2);
        x.insert(1, 1, 2);
        x.insert(1, 1, 2);
        x.close();
        x.close();
        x.close();
        int[] want = {1, 2, 1, 1, 1, 2};
        for (int i = 0; i < want.length; i++) {
            Check.due("about(" + i + ", 3)", x.about(i, 3), want[i]);
        }
    }

    /** "(.. or at all)": an empty page between changes nothing, nor does one that is taken back. */
    private static void numbersOnAndOn() {
        InsertMarks x = new InsertMarks(100);
        x.cls(-1, 0, false);
        x.cls(-1, 0, false);
        x.insert(0, 1, 0);
        x.insert(0, 1, 0);
        x.insert(1, 1, 0);
        x.insert(0, 1, 2);
        x.insert(0, 1, 2);
        x.insert(1, 1, 2);
        x.cancel(3);
        x.close();
        x.close();
        x.close();
        int[] want = {1, 2, 1, -1, 3, 2};
        for (int i = 0; i < want.length; i++) {
            Check.due("about(" + i + ", 3)", x.about(i, 3), want[i]);
        }
    }

    /** Later parts keep the number, and do not count where the class numbers anew. */
    private static void numberComesWithTheFirstPart() {
        InsertMarks x = new InsertMarks(10);
        x.cls(-1, 2, true);
        x.insert(0, 4, 0);
        x.insert(0, 10, 0);
        x.insert(0, 6, 1);
        Check.due("close() of page 0", x.close(), 2);
        Check.partIs(x, 0, 1, 1, 6, 2, 0);
        Check.due("no number yet", x.about(2, 3), -1);
        Check.due("close() of page 1", x.close(), 2);
        Check.partIs(x, 1, 0, 1, 4, 2, 0);
        Check.partIs(x, 1, 1, 2, 6, 1, 0);
        Check.due("about(1, 3)", x.about(1, 3), 2);
    }
}
