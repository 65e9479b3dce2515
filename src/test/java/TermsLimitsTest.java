/** Terms: how many pages, classes, inserts and marks there are at most, and where numbers begin. */
public final class TermsLimitsTest {
    public static void main(String[] args) {
        pagesAreNumberedFromZero();
        fortyPagesByClose();
        fortyPagesByFlush();
        fortyPagesByBoth();
        theLastPageTakesWhatIsToldForIt();
        classesAreNumberedFromZeroToSeven();
        eachOfEightClassesHasItsOwnRoom();
        roomZeroTakesNothingBesideOthers();
        roomZeroOnAnEmptyPage();
        roomTenThousand();
        roomMinusOneIsThatOfThePage();
        roomGreaterThanThePage();
        leastZeroIsNeverCut();
        leastTenThousandNeedsTwiceAsMuch();
        insertsAreNumberedFromZeroToOneNineNine();
        heightOne();
        heightTenThousand();
        restIsTheHeightAtFirst();
        twoHundredHeldAtOnce();
        allIsFullInOneObject();
        Check.end();
    }

    /** "PAGES are numbered from 0 and closed one after the other" */
    private static void pagesAreNumberedFromZero() {
        InsertMarks x = new InsertMarks(100);
        x.cls(-1, 0, true);
        x.insert(0, 3, 1);
        x.insert(0, 2, 0);
        Check.due("close() of page 0", x.close(), 1);
        Check.partIs(x, 0, 0, 1, 2, 1, 0);
        Check.noPart(x, 1, 0);
        Check.due("close() of page 1", x.close(), 1);
        Check.partIs(x, 1, 0, 0, 3, 1, 0);
        Check.noPart(x, 2, 0);
    }

    /** "40 at most": the fortieth is closed, one more is not. */
    private static void fortyPagesByClose() {
        InsertMarks x = new InsertMarks(100);
        for (int page = 0; page < 39; page++) {
            Check.due("close() of page " + page, x.close(), 0);
        }
        Check.due("39 are closed", x.count(3), 39);
        Check.due("close() of the fortieth", x.close(), 0);
        Check.due("40 are closed", x.count(3), 40);
        Check.due("close() once more", x.close(), -3);
        Check.due("still 40", x.count(3), 40);
    }

    private static void fortyPagesByFlush() {
        InsertMarks x = new InsertMarks(1);
        x.cls(-1, 1, true);
        x.insert(0, 41, 0);
        x.close();
        Check.due("flush() to the last page", x.flush(), 39);
        Check.due("40 are closed", x.count(3), 40);
        Check.aboutIs(x, 0, 1, 0, 39, 1, 40);
        Check.due("close() after flush", x.close(), -3);
    }

    private static void fortyPagesByBoth() {
        InsertMarks x = new InsertMarks(1);
        x.cls(-1, 1, true);
        x.insert(0, 2, 38);
        for (int page = 0; page < 39; page++) {
            x.close();
        }
        Check.due("flush() of page 39 alone", x.flush(), 1);
        Check.due("40 are closed", x.count(3), 40);
        Check.heldAre("all closed", x);
        Check.partIs(x, 39, 0, 0, 1, 1, 0);
    }

    private static void theLastPageTakesWhatIsToldForIt() {
        InsertMarks x = new InsertMarks(10);
        x.cls(-1, 0, true);
        x.insert(0, 10, 39);
        x.mark(0, 5, 39);
        for (int page = 0; page < 39; page++) {
            Check.due("close() of page " + page, x.close(), 0);
        }
        Check.due("insert for page 39 before it is closed", x.insert(0, 1, 39), 1);
        Check.due("mark for page 39 before it is closed", x.mark(0, 6, 39), 2);
        Check.due("close() of page 39", x.close(), 1);
        Check.partIs(x, 39, 0, 0, 10, 1, 0);
        Check.due("used(39, 0)", x.used(39, 0), 10);
        Check.due("used(39, -1)", x.used(39, -1), 10);
        Check.due("seen(0, 39, 1)", x.seen(0, 39, 1), 5);
        Check.due("seen(0, 39, 2)", x.seen(0, 39, 2), 6);
        Check.heldAre("for good", x, 1);
        Check.due("insert for page 39, closed", x.insert(0, 1, 39), -3);
        Check.due("mark for page 39, closed", x.mark(0, 6, 39), -3);
    }

    /** "CLASSES, at most 8, numbered from 0": the eighth is taken, the ninth is not. */
    private static void classesAreNumberedFromZeroToSeven() {
        InsertMarks x = new InsertMarks(100);
        for (int cls = 0; cls < 8; cls++) {
            Check.due("before class " + cls + ": insert", x.insert(cls, 1, 0), -1);
            Check.due("before class " + cls + ": used", x.used(0, cls), -1);
            Check.due("cls number " + cls, x.cls(-1, 0, true), cls);
            Check.due("after class " + cls + ": insert", x.insert(cls, 1, 0), cls);
            Check.due("after class " + cls + ": used", x.used(0, cls), 0);
            Check.due("after class " + cls + ": mark", x.mark(cls, cls, 0), cls + 1);
        }
        Check.due("the ninth", x.cls(-1, 0, true), -4);
        Check.due("there are 8", x.count(0), 8);
        Check.due("class 8: insert", x.insert(8, 1, 0), -1);
        Check.due("class 8: mark", x.mark(8, 1, 0), -1);
        Check.due("class 8: used", x.used(0, 8), -1);
    }

    /** "have a ROOM on each page": of each class and each page alone. */
    private static void eachOfEightClassesHasItsOwnRoom() {
        InsertMarks x = new InsertMarks(100);
        for (int cls = 0; cls < 8; cls++) {
            x.cls(cls + 1, 1, false);
            x.insert(cls, 3 * (cls + 1), 0);
        }
        for (int page = 0; page < 3; page++) {
            Check.due("close() of page " + page, x.close(), 8);
            for (int cls = 0; cls < 8; cls++) {
                Check.due("used(" + page + ", " + cls + ")", x.used(page, cls), cls + 1);
            }
            Check.due("used(" + page + ", -1)", x.used(page, -1), 36);
        }
        Check.heldAre("all is placed", x);
    }

    /** "0 .. 10000": a room of 0 is a room, and nothing fits in it. */
    private static void roomZeroTakesNothingBesideOthers() {
        InsertMarks x = new InsertMarks(100);
        x.cls(0, 1, true);
        x.cls(-1, 0, true);
        x.insert(1, 1, 0);
        x.insert(0, 1, 0);
        x.insert(1, 1, 1);
        Check.due("close()", x.close(), 1);
        Check.heldAre("beside another", x, 1);
        Check.due("used(0, 0)", x.used(0, 0), 0);
    }

    private static void roomZeroOnAnEmptyPage() {
        InsertMarks x = new InsertMarks(100);
        x.cls(0, 1, true);
        x.insert(0, 1, 0);
        x.insert(0, 1, 0);
        Check.due("close()", x.close(), 1);
        Check.partIs(x, 0, 0, 0, 1, 1, 1);
        Check.heldAre("one a page", x, 1);
        Check.due("flush()", x.flush(), 1);
        Check.partIs(x, 1, 0, 1, 1, 1, 1);
    }

    private static void roomTenThousand() {
        InsertMarks x = new InsertMarks(30000);
        x.cls(10000, 0, true);
        x.insert(0, 9999, 0);
        x.insert(0, 1, 0);
        x.insert(0, 1, 0);
        Check.due("close()", x.close(), 2);
        Check.due("used(0, 0)", x.used(0, 0), 10000);
        Check.heldAre("one too much", x, 2);
    }

    /** "or -1: that of the page", which may be more than a class could be told itself. */
    private static void roomMinusOneIsThatOfThePage() {
        InsertMarks x = new InsertMarks(30000);
        x.cls(-1, 0, true);
        x.insert(0, 10000, 0);
        x.insert(0, 10000, 0);
        x.insert(0, 9999, 0);
        x.insert(0, 1, 0);
        x.insert(0, 1, 0);
        Check.due("close()", x.close(), 4);
        Check.due("used(0, 0)", x.used(0, 0), 30000);
        Check.heldAre("one too much", x, 4);
    }

    private static void roomGreaterThanThePage() {
        InsertMarks x = new InsertMarks(10);
        x.cls(10000, 0, true);
        x.insert(0, 10, 0);
        x.insert(0, 1, 0);
        Check.due("close()", x.close(), 1);
        Check.heldAre("the page is full", x, 1);
    }

    /** "a LEAST part (0: its inserts are not cut)" */
    private static void leastZeroIsNeverCut() {
        InsertMarks x = new InsertMarks(10);
        x.cls(-1, 0, true);
        x.insert(0, 1, 0);
        x.insert(0, 10, 0);
        x.insert(0, 11, 2);
        Check.due("close()", x.close(), 1);
        Check.aboutIs(x, 1, 10, -1, -1, -1, 0);
        Check.due("close()", x.close(), 1);
        Check.aboutIs(x, 1, 0, 1, 1, 1, 1);
        Check.due("close()", x.close(), 1);
        Check.partIs(x, 2, 0, 2, 11, 1, 1);
    }

    private static void leastTenThousandNeedsTwiceAsMuch() {
        InsertMarks x = new InsertMarks(10000);
        x.cls(-1, 10000, true);
        x.insert(0, 10000, 0);
        x.insert(0, 10000, 0);
        Check.due("close()", x.close(), 1);
        Check.partIs(x, 0, 0, 0, 10000, 1, 0);
        Check.due("close()", x.close(), 1);
        Check.partIs(x, 1, 0, 1, 10000, 1, 0);
        InsertMarks y = new InsertMarks(9999);
        y.cls(-1, 10000, true);
        y.insert(0, 10000, 0);
        Check.due("close()", y.close(), 1);
        Check.partIs(y, 0, 0, 0, 10000, 1, 1);
    }

    /** "INSERTS, at most 200, numbered from 0": the last is taken, one more is not. */
    private static void insertsAreNumberedFromZeroToOneNineNine() {
        InsertMarks x = new InsertMarks(100);
        x.cls(-1, 0, true);
        for (int i = 0; i < 199; i++) {
            Check.due("insert number " + i, x.insert(0, 1, 39), i);
        }
        Check.due("before the last: about(199, 0)", x.about(199, 0), -1);
        Check.due("the last", x.insert(0, 7, 39), 199);
        Check.due("about(199, 0)", x.about(199, 0), 7);
        Check.due("one more", x.insert(0, 1, 39), -4);
        Check.due("about(200, 0)", x.about(200, 0), -1);
        Check.due("cancel(200)", x.cancel(200), -1);
        Check.due("cancel(199)", x.cancel(199), 1);
        Check.due("count(1)", x.count(1), 200);
    }

    /** "a height (1 .. 10000)" */
    private static void heightOne() {
        InsertMarks x = new InsertMarks(1);
        x.cls(1, 1, true);
        Check.due("height 0", x.insert(0, 0, 0), -2);
        Check.due("height 1", x.insert(0, 1, 0), 0);
        Check.due("close()", x.close(), 1);
        Check.partIs(x, 0, 0, 0, 1, 1, 0);
    }

    private static void heightTenThousand() {
        InsertMarks x = new InsertMarks(10000);
        x.cls(10000, 1, true);
        Check.due("height 10001", x.insert(0, 10001, 0), -2);
        Check.due("height 10000", x.insert(0, 10000, 0), 0);
        Check.due("close()", x.close(), 1);
        Check.partIs(x, 0, 0, 0, 10000, 1, 0);
    }

    /** "What of an insert was not placed yet is its REST (at first its height)." */
    private static void restIsTheHeightAtFirst() {
        InsertMarks x = new InsertMarks(4);
        x.cls(-1, 1, true);
        x.insert(0, 10, 1);
        Check.due("at first", x.about(0, 0), 10);
        x.close();
        Check.due("before its page", x.about(0, 0), 10);
        x.close();
        Check.due("after a part", x.about(0, 0), 6);
        x.close();
        Check.due("after two", x.about(0, 0), 2);
        x.close();
        Check.due("after all", x.about(0, 0), 0);
    }

    private static void twoHundredHeldAtOnce() {
        InsertMarks x = new InsertMarks(1);
        x.cls(1, 1, false);
        x.insert(0, 2, 0);
        for (int i = 1; i < 200; i++) {
            x.insert(0, 1, 0);
        }
        Check.due("close()", x.close(), 1);
        Check.due("count(4)", x.count(4), 200);
        Check.due("held(0)", x.held(0), 0);
        Check.due("held(199)", x.held(199), 199);
        Check.due("held(200)", x.held(200), -1);
        Check.due("cancel(199)", x.cancel(199), 1);
        Check.due("held(199)", x.held(199), -1);
        Check.due("flush()", x.flush(), 39);
        Check.due("count(4)", x.count(4), 160);
        Check.due("held(0)", x.held(0), 39);
        Check.due("held(159)", x.held(159), 198);
        Check.due("held(160)", x.held(160), -1);
        Check.due("about(38, 3)", x.about(38, 3), 39);
    }

    /** "used for at most 512 calls": 8 classes, 200 inserts, 300 marks, and four calls more. */
    private static void allIsFullInOneObject() {
        InsertMarks x = new InsertMarks(30000);
        for (int cls = 0; cls < 8; cls++) {
            x.cls(-1, 1, true);
        }
        for (int i = 0; i < 200; i++) {
            x.insert(i % 8, 10000, 0);
        }
        for (int i = 0; i < 300; i++) {
            x.mark(i % 8, i, i % 40);
        }
        Check.due("close()", x.close(), 3);
        Check.due("flush()", x.flush(), 39);
        Check.due("count(4)", x.count(4), 80);
        Check.due("seen(3, 39, 2)", x.seen(3, 39, 2), 275);
    }
}
