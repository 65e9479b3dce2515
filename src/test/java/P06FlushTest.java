/** Promise 6: pages are closed as long as an insert is held (none, when none is): how many. */
public final class P06FlushTest {
    public static void main(String[] args) {
        nothingIsHeld();
        untilNothingIsHeld();
        takesWhatIsToldForThosePages();
        stopsAtTheLastPage();
        takenBackOnesDoNotCount();
        heldInPartIsHeld();
        endsOnTheFortiethPageWithNothingHeld();
        fromAllClosedPages();
        Check.end();
    }

    private static void nothingIsHeld() {
        InsertMarks x = new InsertMarks(100);
        Check.due("flush()", x.flush(), 0);
        x.cls(-1, 0, true);
        x.insert(0, 5, 0);
        x.insert(0, 5, 3);
        Check.due("flush() before close", x.flush(), 0);
        Check.due("count(3)", x.count(3), 0);
        x.close();
        Check.due("flush() after close", x.flush(), 0);
        Check.due("count(3)", x.count(3), 1);
        Check.aboutIs(x, 1, 5, -1, -1, -1, 0);
    }

    private static void untilNothingIsHeld() {
        InsertMarks x = new InsertMarks(10);
        x.cls(-1, 0, true);
        for (int i = 0; i < 5; i++) {
            x.insert(0, 6, 0);
        }
        x.close();
        Check.due("flush()", x.flush(), 4);
        Check.countsAre("flushed", x, 1, 5, 0, 5, 0);
        Check.aboutIs(x, 4, 0, 4, 4, 1, 1);
        Check.due("flush() again", x.flush(), 0);
    }

    private static void takesWhatIsToldForThosePages() {
        InsertMarks x = new InsertMarks(10);
        x.cls(-1, 0, true);
        x.insert(0, 6, 0);
        x.insert(0, 6, 0);
        x.insert(0, 6, 1);
        x.insert(0, 6, 3);
        x.close();
        Check.due("flush()", x.flush(), 2);
        Check.due("count(3)", x.count(3), 3);
        Check.aboutIs(x, 2, 0, 2, 2, 1, 1);
        Check.aboutIs(x, 3, 6, -1, -1, -1, 0);
    }

    private static void stopsAtTheLastPage() {
        InsertMarks x = new InsertMarks(1);
        x.cls(-1, 1, false);
        x.insert(0, 100, 0);
        x.close();
        Check.due("flush()", x.flush(), 39);
        Check.countsAre("all closed", x, 1, 1, 0, 40, 1);
        Check.aboutIs(x, 0, 60, 0, 39, 1, 40);
        Check.due("flush() again", x.flush(), 0);
        Check.due("close()", x.close(), -3);
        Check.heldAre("all closed", x, 0);
    }

    private static void takenBackOnesDoNotCount() {
        InsertMarks x = new InsertMarks(10);
        x.cls(-1, 0, true);
        x.insert(0, 6, 0);
        x.insert(0, 6, 0);
        x.close();
        Check.due("cancel(1)", x.cancel(1), 1);
        Check.due("flush()", x.flush(), 0);
        Check.due("count(3)", x.count(3), 1);
    }

    private static void heldInPartIsHeld() {
        InsertMarks x = new InsertMarks(10);
        x.cls(-1, 1, true);
        x.insert(0, 11, 0);
        x.close();
        Check.due("flush()", x.flush(), 1);
        Check.due("used(1, 0)", x.used(1, 0), 1);
    }

    private static void endsOnTheFortiethPageWithNothingHeld() {
        InsertMarks x = new InsertMarks(1);
        x.cls(-1, 1, false);
        x.insert(0, 40, 0);
        x.close();
        Check.due("flush()", x.flush(), 39);
        Check.heldAre("all is placed", x);
        Check.due("flush() again", x.flush(), 0);
        Check.due("count(3)", x.count(3), 40);
    }

    private static void fromAllClosedPages() {
        InsertMarks x = new InsertMarks(10);
        x.cls(-1, 0, true);
        x.insert(0, 6, 39);
        x.insert(0, 6, 39);
        for (int page = 0; page < 40; page++) {
            x.close();
        }
        Check.heldAre("on the last page", x, 1);
        Check.due("no page is left", x.flush(), 0);
        Check.countsAre("after that", x, 1, 2, 0, 40, 1);
    }
}
