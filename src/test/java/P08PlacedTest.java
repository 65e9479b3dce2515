/** Promise 8: part k of a page: its insert, size, number, OVER; -1 when there is none such. */
public final class P08PlacedTest {
    private static final int MIN = Integer.MIN_VALUE;
    private static final int MAX = Integer.MAX_VALUE;

    public static void main(String[] args) {
        inTheOrderOfPlacing();
        noneSuch();
        earlierPagesStay();
        pagesWithoutParts();
        twoHundredPartsOnOnePage();
        oneTakenBackIsNoPart();
        Check.end();
    }

    private static InsertMarks threeOnTwoPages() {
        InsertMarks x = new InsertMarks(20);
        x.cls(-1, 4, false);
        x.cls(2, 0, true);
        x.insert(1, 3, 0);
        x.insert(0, 30, 0);
        x.insert(1, 2, 1);
        x.close();
        x.close();
        return x;
    }

    private static void inTheOrderOfPlacing() {
        InsertMarks x = threeOnTwoPages();
        Check.partIs(x, 0, 0, 0, 3, 1, 1);
        Check.partIs(x, 0, 1, 1, 17, 1, 0);
        Check.noPart(x, 0, 2);
        Check.partIs(x, 1, 0, 1, 13, 1, 0);
        Check.partIs(x, 1, 1, 2, 2, 1, 0);
        Check.noPart(x, 1, 2);
    }

    private static void noneSuch() {
        InsertMarks x = threeOnTwoPages();
        int[] badPages = {-1, 2, 39, 40, 41, MIN, MAX};
        for (int page : badPages) {
            Check.noPart(x, page, 0);
        }
        int[] badParts = {-1, 2, 3, MIN, MAX};
        for (int k : badParts) {
            Check.noPart(x, 0, k);
        }
        int[] badWhats = {-1, 4, 5, MIN, MAX};
        for (int what : badWhats) {
            Check.due("placed(0, 0, " + what + ")", x.placed(0, 0, what), -1);
        }
    }

    private static void earlierPagesStay() {
        InsertMarks x = new InsertMarks(30);
        x.cls(-1, 10, true);
        x.insert(0, 95, 0);
        x.close();
        Check.due("flush()", x.flush(), 2);
        Check.partIs(x, 0, 0, 0, 30, 1, 0);
        Check.partIs(x, 1, 0, 0, 30, 1, 0);
        Check.partIs(x, 2, 0, 0, 35, 1, 1);
    }

    private static void pagesWithoutParts() {
        InsertMarks x = new InsertMarks(10);
        x.cls(-1, 0, true);
        x.insert(0, 5, 1);
        Check.noPart(x, 1, 0);
        x.close();
        Check.noPart(x, 0, 0);
        Check.noPart(x, 1, 0);
        x.close();
        Check.partIs(x, 1, 0, 0, 5, 1, 0);
    }

    private static void twoHundredPartsOnOnePage() {
        InsertMarks x = new InsertMarks(200);
        x.cls(-1, 0, true);
        for (int i = 0; i < 200; i++) {
            x.insert(0, 1, 0);
        }
        Check.due("close()", x.close(), 200);
        Check.partIs(x, 0, 0, 0, 1, 1, 0);
        Check.partIs(x, 0, 199, 199, 1, 200, 0);
        Check.noPart(x, 0, 200);
    }

    private static void oneTakenBackIsNoPart() {
        InsertMarks x = new InsertMarks(10);
        x.cls(-1, 0, true);
        x.insert(0, 1, 0);
        x.insert(0, 2, 0);
        x.cancel(0);
        x.close();
        Check.partIs(x, 0, 0, 1, 2, 1, 0);
        Check.noPart(x, 0, 1);
    }
}
