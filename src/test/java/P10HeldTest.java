/** Promise 10: the k-th held insert in the order in which they were gone through; -1 for none. */
public final class P10HeldTest {
    public static void main(String[] args) {
        inTheOrderOfGoing();
        wrongNumbers();
        sinceTheLatestPage();
        theLastOfThemCanBeTakenBack();
        beforeAnyPageIsClosed();
        allOfThemAreTakenBack();
        Check.end();
    }

    private static InsertMarks fourHeld() {
        InsertMarks x = new InsertMarks(10);
        x.cls(-1, 2, true);
        x.cls(-1, 0, true);
        x.insert(1, 6, 0);
        x.insert(1, 9, 0);
        x.insert(0, 9, 0);
        x.insert(1, 1, 0);
        x.insert(0, 1, 0);
        x.insert(0, 1, 1);
        x.close();
        return x;
    }

    private static void inTheOrderOfGoing() {
        InsertMarks x = fourHeld();
        Check.due("used(0, -1)", x.used(0, -1), 10);
        Check.heldAre("page 0", x, 1, 2, 3, 4);
    }

    private static void wrongNumbers() {
        InsertMarks x = fourHeld();
        int[] bad = {-1, 4, 5, 199, 200, 201, Integer.MIN_VALUE, Integer.MAX_VALUE};
        for (int k : bad) {
            Check.due("held(" + k + ")", x.held(k), -1);
        }
    }

    private static void sinceTheLatestPage() {
        InsertMarks x = fourHeld();
        Check.due("close()", x.close(), 2);
        Check.partIs(x, 1, 0, 1, 9, 1, 0);
        Check.partIs(x, 1, 1, 3, 1, 2, 0);
        Check.heldAre("page 1", x, 2, 4, 5);
        x.insert(0, 5, 2);
        Check.heldAre("an insert for the next page", x, 2, 4, 5);
        Check.due("close()", x.close(), 4);
        Check.partIs(x, 2, 3, 6, 3, 3, 0);
        Check.heldAre("page 2, held in part", x, 6);
    }

    private static void theLastOfThemCanBeTakenBack() {
        InsertMarks x = fourHeld();
        x.cancel(4);
        Check.heldAre("4 is taken back", x, 1, 2, 3);
        x.cancel(1);
        Check.heldAre("1 is taken back", x, 2, 3);
        x.cancel(5);
        Check.heldAre("5, not held, is taken back", x, 2, 3);
        Check.due("close()", x.close(), 2);
        Check.heldAre("page 1", x);
    }

    private static void beforeAnyPageIsClosed() {
        InsertMarks x = new InsertMarks(10);
        Check.heldAre("new", x);
        x.cls(-1, 0, true);
        x.insert(0, 11, 0);
        x.insert(0, 11, 0);
        Check.heldAre("no page is closed", x);
    }

    /** "(those taken back since are not counted)": the others move up, to the last of them. */
    private static void allOfThemAreTakenBack() {
        InsertMarks x = new InsertMarks(10);
        x.cls(-1, 0, true);
        for (int i = 0; i < 4; i++) {
            x.insert(0, 10, 0);
        }
        x.close();
        Check.heldAre("page 0", x, 1, 2, 3);
        x.cancel(1);
        Check.heldAre("the first", x, 2, 3);
        x.cancel(3);
        Check.heldAre("the last", x, 2);
        x.cancel(2);
        Check.heldAre("the only one", x);
    }
}
