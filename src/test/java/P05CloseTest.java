/** Promise 5: the next page is closed: how many parts were placed on it. -3 all 40 are. */
public final class P05CloseTest {
    public static void main(String[] args) {
        fortyPagesAtMost();
        heldOnesComeFirst();
        heldOnesKeepTheirOrder();
        aHeldOneHoldsItsClassAlone();
        aCutOneHoldsItsClass();
        cutAtTheEdges();
        freeIsTheLesserOne();
        overOnAnEmptyPageAlone();
        overOfARest();
        nothingFitsBesideOver();
        numbersByTheFirstPart();
        manyCutsOnEveryPage();
        countsPartsNotInserts();
        lessAndLessOpenPages();
        Check.end();
    }

    private static void fortyPagesAtMost() {
        InsertMarks x = new InsertMarks(10);
        x.cls(-1, 0, true);
        for (int page = 0; page < 40; page++) {
            x.insert(0, 10, page);
            Check.due("count(3)", x.count(3), page);
            Check.due("close() of page " + page, x.close(), 1);
        }
        Check.due("close()", x.close(), -3);
        Check.due("close() again", x.close(), -3);
        Check.due("count(3)", x.count(3), 40);
        Check.partIs(x, 39, 0, 39, 10, 1, 0);
    }

    private static void heldOnesComeFirst() {
        InsertMarks x = new InsertMarks(10);
        x.cls(-1, 0, true);
        x.insert(0, 6, 1);
        x.insert(0, 6, 0);
        x.insert(0, 7, 0);
        Check.due("close()", x.close(), 1);
        Check.heldAre("page 0", x, 2);
        Check.due("close()", x.close(), 1);
        Check.partIs(x, 1, 0, 2, 7, 1, 0);
        Check.heldAre("page 1", x, 0);
        Check.due("close()", x.close(), 1);
        Check.partIs(x, 2, 0, 0, 6, 1, 0);
    }

    private static void heldOnesKeepTheirOrder() {
        InsertMarks x = new InsertMarks(10);
        x.cls(-1, 0, true);
        x.cls(-1, 0, true);
        x.insert(0, 8, 1);
        x.insert(1, 8, 2);
        x.insert(0, 10, 0);
        x.insert(1, 9, 0);
        x.insert(0, 9, 0);
        Check.due("close()", x.close(), 1);
        Check.heldAre("page 0", x, 3, 4);
        Check.due("close()", x.close(), 1);
        Check.heldAre("page 1", x, 4, 0);
        Check.due("close()", x.close(), 1);
        Check.heldAre("page 2", x, 0, 1);
    }

    private static void aHeldOneHoldsItsClassAlone() {
        InsertMarks x = new InsertMarks(10);
        x.cls(-1, 0, true);
        x.cls(-1, 0, true);
        x.insert(0, 6, 0);
        x.insert(0, 5, 0);
        x.insert(0, 1, 0);
        x.insert(1, 1, 0);
        Check.due("close()", x.close(), 2);
        Check.partIs(x, 0, 1, 3, 1, 1, 0);
        Check.heldAre("page 0", x, 1, 2);
        Check.due("close()", x.close(), 2);
        Check.due("used(1, 0)", x.used(1, 0), 6);
    }

    private static void aCutOneHoldsItsClass() {
        InsertMarks x = new InsertMarks(100);
        x.cls(20, 5, true);
        x.insert(0, 30, 0);
        x.insert(0, 1, 0);
        Check.due("close()", x.close(), 1);
        Check.partIs(x, 0, 0, 0, 20, 1, 0);
        Check.heldAre("page 0", x, 0, 1);
        Check.due("close()", x.close(), 2);
        Check.partIs(x, 1, 0, 0, 10, 1, 0);
        Check.partIs(x, 1, 1, 1, 1, 1, 0);
        Check.heldAre("page 1", x);
    }

    private static void cutAtTheEdges() {
        Check.due("both as much as the least part", sizeOfPart(100, 90, 10, 20), 10);
        Check.due("what is free is too little", sizeOfPart(100, 91, 10, 20), 0);
        Check.due("what is left is too little", sizeOfPart(100, 90, 10, 19), 0);
        Check.due("what is left is as much", sizeOfPart(100, 50, 10, 60), 50);
        Check.due("no more than fits", sizeOfPart(100, 80, 10, 20), 20);
        Check.due("one too much, never cut", sizeOfPart(100, 80, 0, 21), 0);
        Check.due("one too much, cut by one", sizeOfPart(100, 80, 1, 21), 20);
        Check.due("no room, cut by one", sizeOfPart(100, 100, 1, 21), 0);
    }

    /** What of an insert is placed beside one of another class that stands there already. */
    private static int sizeOfPart(int room, int standing, int least, int height) {
        InsertMarks x = new InsertMarks(room);
        x.cls(-1, 0, true);
        x.cls(-1, least, true);
        x.insert(0, standing, 0);
        x.insert(1, height, 0);
        x.close();
        return x.used(0, 1);
    }

    private static void freeIsTheLesserOne() {
        InsertMarks x = new InsertMarks(100);
        x.cls(70, 1, true);
        x.cls(70, 1, true);
        x.insert(0, 10, 0);
        x.insert(0, 500, 0);
        x.insert(1, 500, 0);
        Check.due("close()", x.close(), 3);
        Check.partIs(x, 0, 1, 1, 60, 2, 0);
        Check.partIs(x, 0, 2, 2, 30, 1, 0);
    }

    private static void overOnAnEmptyPageAlone() {
        InsertMarks x = new InsertMarks(100);
        x.cls(10, 0, true);
        x.cls(10, 20, true);
        x.insert(0, 11, 0);
        x.insert(1, 11, 0);
        x.insert(0, 11, 0);
        Check.due("close()", x.close(), 1);
        Check.partIs(x, 0, 0, 0, 11, 1, 1);
        Check.heldAre("page 0", x, 1, 2);
        Check.due("close()", x.close(), 1);
        Check.partIs(x, 1, 0, 1, 11, 1, 1);
        Check.due("close()", x.close(), 1);
        Check.partIs(x, 2, 0, 2, 11, 1, 1);
    }

    private static void overOfARest() {
        InsertMarks x = new InsertMarks(100);
        x.cls(50, 10, false);
        x.insert(0, 105, 0);
        Check.due("close()", x.close(), 1);
        Check.partIs(x, 0, 0, 0, 50, 1, 0);
        Check.due("close()", x.close(), 1);
        Check.partIs(x, 1, 0, 0, 55, 1, 1);
        Check.aboutIs(x, 0, 0, 0, 1, 1, 2);
        Check.due("used(1, 0)", x.used(1, 0), 55);
    }

    private static void nothingFitsBesideOver() {
        InsertMarks x = new InsertMarks(100);
        x.cls(-1, 0, true);
        x.cls(-1, 1, true);
        x.insert(0, 10000, 0);
        x.insert(0, 1, 0);
        x.insert(1, 1, 0);
        x.insert(1, 300, 0);
        Check.due("close()", x.close(), 1);
        Check.due("used(0, -1)", x.used(0, -1), 10000);
        Check.heldAre("page 0", x, 1, 2, 3);
        Check.due("close()", x.close(), 3);
        Check.partIs(x, 1, 2, 3, 98, 2, 0);
    }

    private static void numbersByTheFirstPart() {
        InsertMarks x = new InsertMarks(100);
        x.cls(30, 5, true);
        x.cls(30, 5, false);
        for (int cls = 0; cls < 2; cls++) {
            x.insert(cls, 10, 0);
            x.insert(cls, 35, 0);
            x.insert(cls, 10, 1);
        }
        Check.due("close()", x.close(), 4);
        Check.due("close()", x.close(), 4);
        int[] want = {1, 2, 1, 1, 2, 3};
        for (int i = 0; i < want.length; i++) {
            Check.due("about(" + i + ", 3)", x.about(i, 3), want[i]);
        }
        Check.due("placed(1, 0, 2)", x.placed(1, 0, 2), 2);
    }

    private static void manyCutsOnEveryPage() {
        InsertMarks x = new InsertMarks(30000);
        for (int cls = 0; cls < 8; cls++) {
            x.cls(10, 1, false);
        }
        for (int i = 0; i < 192; i++) {
            x.insert(i % 8, 4, 0);
        }
        for (int cls = 0; cls < 8; cls++) {
            x.insert(cls, 10000, 0);
        }
        int parts = 0;
        for (int page = 0; page < 40; page++) {
            parts += x.close();
            Check.due("used(" + page + ", -1)", x.used(page, -1), 80);
        }
        int told = 0;
        for (int i = 0; i < 200; i++) {
            told += x.about(i, 4);
        }
        Check.due("parts of all inserts", told, parts);
        Check.due("rest of the last", x.about(199, 0), 10000 - (400 - 24 * 4));
    }

    private static void countsPartsNotInserts() {
        InsertMarks x = new InsertMarks(10);
        x.cls(5, 1, true);
        x.cls(5, 1, true);
        x.insert(0, 6, 0);
        x.insert(0, 1, 0);
        x.insert(1, 6, 0);
        Check.due("two parts, none of them whole", x.close(), 2);
        Check.due("two rests and a whole one", x.close(), 3);
        Check.due("an empty page", x.close(), 0);
    }

    private static void lessAndLessOpenPages() {
        InsertMarks x = new InsertMarks(10);
        x.cls(-1, 0, true);
        for (int page = 0; page < 40; page++) {
            Check.due("mark before close of page " + page, x.mark(0, page, page), page + 1);
            Check.due("close() of page " + page, x.close(), 0);
            Check.due("mark after close of page " + page, x.mark(0, page, page), -3);
        }
        Check.due("close()", x.close(), -3);
    }
}
