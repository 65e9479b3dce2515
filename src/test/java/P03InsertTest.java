/** Promise 3: an insert: its number. -1 no such class; -2 height, page not 0 .. 39; -3; -4. */
public final class P03InsertTest {
    private static final int MIN = Integer.MIN_VALUE;
    private static final int MAX = Integer.MAX_VALUE;

    public static void main(String[] args) {
        ranges();
        closedPages();
        noRoomForMoreThanTwoHundred();
        theFirstRefusalThatFits();
        waitsForItsPage();
        Check.end();
    }

    private static void ranges() {
        InsertMarks x = new InsertMarks(100);
        x.cls(-1, 0, true);
        x.cls(-1, 0, true);
        int[] badClasses = {-1, 2, 8, 9, MIN, MAX};
        for (int cls : badClasses) {
            Check.due("insert(" + cls + ", 5, 0)", x.insert(cls, 5, 0), -1);
        }
        int[] badHeights = {0, -1, 10001, MIN, MAX};
        for (int height : badHeights) {
            Check.due("insert(0, " + height + ", 0)", x.insert(0, height, 0), -2);
        }
        int[] badPages = {-1, 40, MIN, MAX};
        for (int page : badPages) {
            Check.due("insert(0, 5, " + page + ")", x.insert(0, 5, page), -2);
        }
        Check.due("count(1)", x.count(1), 0);
        Check.due("insert(0, 1, 0)", x.insert(0, 1, 0), 0);
        Check.due("insert(1, 10000, 39)", x.insert(1, 10000, 39), 1);
        Check.aboutIs(x, 0, 1, -1, -1, -1, 0);
        Check.aboutIs(x, 1, 10000, -1, -1, -1, 0);
        Check.due("count(1)", x.count(1), 2);
    }

    private static void closedPages() {
        InsertMarks x = new InsertMarks(100);
        x.cls(-1, 0, true);
        for (int page = 0; page < 40; page++) {
            Check.due("on the next page " + page, x.insert(0, 5, page), page);
            x.close();
            Check.due("on the closed page " + page, x.insert(0, 5, page), -3);
            Check.due("on page 0", x.insert(0, 5, 0), -3);
        }
        Check.due("count(1)", x.count(1), 40);
    }

    private static void noRoomForMoreThanTwoHundred() {
        InsertMarks x = new InsertMarks(100);
        x.cls(-1, 0, true);
        for (int i = 0; i < 200; i++) {
            Check.due("insert number " + i, x.insert(0, 1, i % 40), i);
        }
        Check.due("one more", x.insert(0, 1, 0), -4);
        Check.due("cancel(3)", x.cancel(3), 1);
        Check.due("one more after cancel", x.insert(0, 1, 0), -4);
        Check.due("count(1)", x.count(1), 200);
        Check.due("close()", x.close(), 5);
    }

    private static void theFirstRefusalThatFits() {
        InsertMarks x = new InsertMarks(100);
        x.cls(-1, 0, true);
        for (int i = 0; i < 200; i++) {
            x.insert(0, 1, 0);
        }
        x.close();
        Check.due("-1 before all", x.insert(1, 0, 0), -1);
        Check.due("-1 before -3", x.insert(1, 1, 0), -1);
        Check.due("-1 before -4", x.insert(1, 1, 1), -1);
        Check.due("-2 before -3", x.insert(0, 0, 0), -2);
        Check.due("-2 before -4", x.insert(0, 0, 1), -2);
        Check.due("-2 before -4, page", x.insert(0, 1, 40), -2);
        Check.due("-3 before -4", x.insert(0, 1, 0), -3);
        Check.due("-4 at last", x.insert(0, 1, 1), -4);
    }

    private static void waitsForItsPage() {
        InsertMarks x = new InsertMarks(100);
        x.cls(-1, 0, true);
        x.insert(0, 5, 2);
        Check.due("close()", x.close(), 0);
        Check.heldAre("before its page", x);
        Check.due("close()", x.close(), 0);
        Check.due("close()", x.close(), 1);
        Check.aboutIs(x, 0, 0, 2, 2, 1, 1);
    }
}
