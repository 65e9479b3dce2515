/** Promise 9: rest, first page, latest page, number, parts of an insert; -1; -2 for others. */
public final class P09AboutTest {
    private static final int MIN = Integer.MIN_VALUE;
    private static final int MAX = Integer.MAX_VALUE;

    public static void main(String[] args) {
        onItsWay();
        refusals();
        takenBack();
        onTheFirstAndTheLastPage();
        heldAndTakenBack();
        Check.end();
    }

    private static void onItsWay() {
        InsertMarks x = new InsertMarks(10);
        x.cls(-1, 3, false);
        x.cls(-1, 0, false);
        x.insert(1, 8, 0);
        x.insert(0, 14, 0);
        x.insert(0, 3, 0);
        Check.aboutIs(x, 1, 14, -1, -1, -1, 0);
        x.close();
        Check.aboutIs(x, 0, 0, 0, 0, 1, 1);
        Check.aboutIs(x, 1, 14, -1, -1, -1, 0);
        Check.aboutIs(x, 2, 3, -1, -1, -1, 0);
        x.close();
        Check.aboutIs(x, 1, 4, 1, 1, 1, 1);
        x.close();
        Check.aboutIs(x, 1, 0, 1, 2, 1, 2);
        Check.aboutIs(x, 2, 0, 2, 2, 2, 1);
        x.close();
        Check.aboutIs(x, 1, 0, 1, 2, 1, 2);
    }

    private static void refusals() {
        InsertMarks x = new InsertMarks(10);
        x.cls(-1, 0, true);
        x.insert(0, 5, 0);
        int[] badInserts = {-1, 1, 199, 200, 201, MIN, MAX};
        for (int insert : badInserts) {
            Check.due("about(" + insert + ", 0)", x.about(insert, 0), -1);
            Check.due("about(" + insert + ", 5)", x.about(insert, 5), -1);
        }
        int[] badWhats = {-1, 5, 6, MIN, MAX};
        for (int what : badWhats) {
            Check.due("about(0, " + what + ")", x.about(0, what), -2);
        }
    }

    private static void takenBack() {
        InsertMarks x = new InsertMarks(10);
        x.cls(-1, 0, true);
        x.insert(0, 5, 0);
        x.cancel(0);
        x.close();
        Check.aboutIs(x, 0, 0, -1, -1, -1, 0);
        Check.due("about(0, 5)", x.about(0, 5), -2);
    }

    private static void onTheFirstAndTheLastPage() {
        InsertMarks x = new InsertMarks(1);
        x.cls(-1, 1, true);
        x.insert(0, 10000, 0);
        x.insert(0, 1, 39);
        x.close();
        Check.aboutIs(x, 0, 9999, 0, 0, 1, 1);
        x.flush();
        Check.aboutIs(x, 0, 9960, 0, 39, 1, 40);
        Check.aboutIs(x, 1, 1, -1, -1, -1, 0);
    }

    /** "0 when it was taken back", though nothing of it was placed. */
    private static void heldAndTakenBack() {
        InsertMarks x = new InsertMarks(10);
        x.cls(-1, 0, true);
        x.insert(0, 8, 0);
        x.insert(0, 8, 0);
        x.close();
        Check.aboutIs(x, 1, 8, -1, -1, -1, 0);
        x.cancel(1);
        Check.aboutIs(x, 1, 0, -1, -1, -1, 0);
        x.close();
        Check.aboutIs(x, 1, 0, -1, -1, -1, 0);
    }
}
