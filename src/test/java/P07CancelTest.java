/** Promise 7: an insert of which no part was placed is taken back: 1; -1; -3. */
public final class P07CancelTest {
    public static void main(String[] args) {
        refusals();
        beforeItsPage();
        whileItIsHeld();
        itNoLongerHoldsItsClass();
        notInPart();
        itsNumberStays();
        afterAllPagesAreClosed();
        theFirstAndTheLastOfTwoHundred();
        Check.end();
    }

    private static void refusals() {
        InsertMarks x = new InsertMarks(100);
        x.cls(-1, 0, true);
        x.insert(0, 5, 0);
        int[] bad = {-1, 1, 199, 200, 201, Integer.MIN_VALUE, Integer.MAX_VALUE};
        for (int insert : bad) {
            Check.due("cancel(" + insert + ")", x.cancel(insert), -1);
        }
        x.close();
        Check.due("cancel(0), placed", x.cancel(0), -3);
        Check.aboutIs(x, 0, 0, 0, 0, 1, 1);
    }

    private static void beforeItsPage() {
        InsertMarks x = new InsertMarks(100);
        x.cls(-1, 0, false);
        x.insert(0, 5, 0);
        x.insert(0, 6, 0);
        Check.due("cancel(0)", x.cancel(0), 1);
        Check.due("cancel(0) again", x.cancel(0), -3);
        Check.aboutIs(x, 0, 0, -1, -1, -1, 0);
        Check.due("count(1)", x.count(1), 2);
        Check.due("insert(0, 7, 0)", x.insert(0, 7, 0), 2);
        Check.due("close()", x.close(), 2);
        Check.partIs(x, 0, 0, 1, 6, 1, 0);
        Check.partIs(x, 0, 1, 2, 7, 2, 0);
        Check.due("cancel(0) after close", x.cancel(0), -3);
    }

    private static void whileItIsHeld() {
        InsertMarks x = new InsertMarks(10);
        x.cls(-1, 0, true);
        for (int i = 0; i < 4; i++) {
            x.insert(0, 6, 0);
        }
        x.close();
        Check.heldAre("page 0", x, 1, 2, 3);
        Check.due("cancel(2)", x.cancel(2), 1);
        Check.heldAre("2 is taken back", x, 1, 3);
        Check.due("close()", x.close(), 1);
        Check.heldAre("page 1", x, 3);
        Check.due("cancel(3)", x.cancel(3), 1);
        Check.heldAre("3 is taken back", x);
        Check.due("close()", x.close(), 0);
        Check.aboutIs(x, 3, 0, -1, -1, -1, 0);
    }

    private static void itNoLongerHoldsItsClass() {
        InsertMarks x = new InsertMarks(10);
        x.cls(5, 0, true);
        x.cls(-1, 0, true);
        x.insert(1, 3, 0);
        x.insert(0, 6, 0);
        x.insert(0, 1, 0);
        x.insert(1, 1, 1);
        x.close();
        Check.due("cancel(1)", x.cancel(1), 1);
        Check.due("close()", x.close(), 2);
        Check.partIs(x, 1, 0, 2, 1, 1, 0);
        Check.partIs(x, 1, 1, 3, 1, 1, 0);
    }

    private static void notInPart() {
        InsertMarks x = new InsertMarks(10);
        x.cls(-1, 1, true);
        x.insert(0, 15, 0);
        x.close();
        Check.due("cancel(0)", x.cancel(0), -3);
        Check.heldAre("still held", x, 0);
        Check.aboutIs(x, 0, 5, 0, 0, 1, 1);
    }

    /** "its number stays": it is not given again, and the others keep theirs. */
    private static void itsNumberStays() {
        InsertMarks x = new InsertMarks(100);
        x.cls(-1, 0, true);
        x.insert(0, 5, 0);
        Check.due("cancel(0)", x.cancel(0), 1);
        Check.due("the next one", x.insert(0, 6, 0), 1);
        Check.due("about(0, 0)", x.about(0, 0), 0);
        Check.due("about(1, 0)", x.about(1, 0), 6);
        Check.due("close()", x.close(), 1);
        Check.partIs(x, 0, 0, 1, 6, 1, 0);
        Check.aboutIs(x, 0, 0, -1, -1, -1, 0);
    }

    private static void afterAllPagesAreClosed() {
        InsertMarks x = new InsertMarks(10);
        x.cls(-1, 0, true);
        x.insert(0, 6, 39);
        x.insert(0, 6, 39);
        x.insert(0, 6, 39);
        for (int page = 0; page < 40; page++) {
            x.close();
        }
        Check.due("cancel(0), placed on the last page", x.cancel(0), -3);
        Check.due("cancel(1), held for good", x.cancel(1), 1);
        Check.heldAre("1 is taken back", x, 2);
        Check.due("cancel(1) again", x.cancel(1), -3);
        Check.due("cancel(2)", x.cancel(2), 1);
        Check.heldAre("none is held", x);
    }

    private static void theFirstAndTheLastOfTwoHundred() {
        InsertMarks x = new InsertMarks(1000);
        x.cls(-1, 0, true);
        for (int i = 0; i < 200; i++) {
            x.insert(0, 1, 0);
        }
        Check.due("cancel(0)", x.cancel(0), 1);
        Check.due("cancel(199)", x.cancel(199), 1);
        Check.due("cancel(200)", x.cancel(200), -1);
        Check.due("close()", x.close(), 198);
        Check.partIs(x, 0, 0, 1, 1, 1, 0);
        Check.partIs(x, 0, 197, 198, 1, 198, 0);
        Check.noPart(x, 0, 198);
    }
}
