/** Promise 11: what stands on a page of a class, or of all (cls -1); -1 no such class or page. */
public final class P11UsedTest {
    private static final int MIN = Integer.MIN_VALUE;
    private static final int MAX = Integer.MAX_VALUE;

    public static void main(String[] args) {
        sums();
        refusals();
        aClassThatCameLater();
        moreThanTheRoom();
        withoutClasses();
        theLastClassAndPage();
        Check.end();
    }

    private static InsertMarks twoPages() {
        InsertMarks x = new InsertMarks(100);
        x.cls(-1, 0, true);
        x.cls(30, 5, true);
        x.insert(0, 20, 0);
        x.insert(1, 40, 0);
        x.insert(0, 25, 0);
        x.insert(0, 7, 1);
        x.close();
        x.close();
        return x;
    }

    private static void sums() {
        InsertMarks x = twoPages();
        Check.due("used(0, 0)", x.used(0, 0), 45);
        Check.due("used(0, 1)", x.used(0, 1), 30);
        Check.due("used(0, -1)", x.used(0, -1), 75);
        Check.due("used(1, 0)", x.used(1, 0), 7);
        Check.due("used(1, 1)", x.used(1, 1), 10);
        Check.due("used(1, -1)", x.used(1, -1), 17);
        x.insert(0, 9, 2);
        Check.due("used(2, -1), not closed", x.used(2, -1), 0);
        Check.due("used(2, 0), not closed", x.used(2, 0), 0);
        Check.due("used(39, -1)", x.used(39, -1), 0);
        Check.due("used(39, 1)", x.used(39, 1), 0);
    }

    private static void refusals() {
        InsertMarks x = twoPages();
        int[] badPages = {-1, 40, 41, MIN, MAX};
        for (int page : badPages) {
            for (int cls = -1; cls < 2; cls++) {
                Check.due("used(" + page + ", " + cls + ")", x.used(page, cls), -1);
            }
        }
        int[] badClasses = {-2, 2, 7, 8, 9, MIN, MAX};
        for (int cls : badClasses) {
            Check.due("used(0, " + cls + ")", x.used(0, cls), -1);
            Check.due("used(5, " + cls + ")", x.used(5, cls), -1);
        }
    }

    private static void aClassThatCameLater() {
        InsertMarks x = twoPages();
        x.cls(-1, 0, true);
        Check.due("used(0, 2)", x.used(0, 2), 0);
    }

    /** What is OVER stands there too. */
    private static void moreThanTheRoom() {
        InsertMarks x = new InsertMarks(1);
        x.cls(0, 0, true);
        x.insert(0, 10000, 0);
        x.close();
        Check.due("used(0, 0)", x.used(0, 0), 10000);
        Check.due("used(0, -1)", x.used(0, -1), 10000);
    }

    private static void withoutClasses() {
        InsertMarks x = new InsertMarks(1);
        Check.due("used(0, -1)", x.used(0, -1), 0);
        Check.due("used(0, 0)", x.used(0, 0), -1);
        x.close();
        Check.due("used(0, -1), closed", x.used(0, -1), 0);
        Check.due("used(0, 0), closed", x.used(0, 0), -1);
        Check.due("used(-1, -1)", x.used(-1, -1), -1);
        Check.due("used(40, -1)", x.used(40, -1), -1);
    }

    private static void theLastClassAndPage() {
        InsertMarks x = new InsertMarks(30);
        for (int cls = 0; cls < 8; cls++) {
            x.cls(-1, 0, true);
        }
        x.insert(7, 9, 39);
        x.insert(6, 8, 39);
        for (int page = 0; page < 40; page++) {
            x.close();
        }
        Check.due("used(39, 7)", x.used(39, 7), 9);
        Check.due("used(39, 6)", x.used(39, 6), 8);
        Check.due("used(39, -1)", x.used(39, -1), 17);
        Check.due("used(38, -1)", x.used(38, -1), 0);
        Check.due("used(39, 8)", x.used(39, 8), -1);
    }
}
