/** Promise 1: no classes; the room of a page, the nearest of 1 .. 30000. */
public final class P01NewObjectTest {
    public static void main(String[] args) {
        nothingIsThere();
        roomIsTheNearest(Integer.MIN_VALUE, 1);
        roomIsTheNearest(-1, 1);
        roomIsTheNearest(0, 1);
        roomIsTheNearest(1, 1);
        roomIsTheNearest(2, 2);
        roomIsTheNearest(777, 777);
        roomIsTheNearest(10001, 10001);
        roomIsTheNearest(29999, 29999);
        roomIsTheNearest(30000, 30000);
        roomIsTheNearest(30001, 30000);
        roomIsTheNearest(Integer.MAX_VALUE, 30000);
        for (int told : new int[] {Integer.MIN_VALUE, -30000, -1, 0, 1}) {
            oneUnitFitsInTheLeastRoom(told);
        }
        for (int told : new int[] {30000, 30001, 60000, Integer.MAX_VALUE}) {
            oneUnitTooMuchForTheGreatestRoom(told);
        }
        Check.end();
    }

    private static void nothingIsThere() {
        InsertMarks x = new InsertMarks(100);
        Check.countsAre("new", x, 0, 0, 0, 0, 0);
        Check.due("insert(0, 5, 0)", x.insert(0, 5, 0), -1);
        Check.due("mark(0, 5, 0)", x.mark(0, 5, 0), -1);
        Check.due("about(0, 0)", x.about(0, 0), -1);
        Check.due("cancel(0)", x.cancel(0), -1);
        Check.due("seen(0, 0, 2)", x.seen(0, 0, 2), 0);
        Check.due("used(0, -1)", x.used(0, -1), 0);
        Check.due("used(0, 0)", x.used(0, 0), -1);
        Check.noPart(x, 0, 0);
        Check.heldAre("new", x);
    }

    /** Inserts of height 1 to 10000 that fill the room to the last unit, and one that is too much. */
    private static void roomIsTheNearest(int told, int want) {
        InsertMarks x = new InsertMarks(told);
        x.cls(-1, 0, true);
        int fitting = 0;
        for (int left = want; left > 0; left -= Math.min(left, 10000)) {
            x.insert(0, Math.min(left, 10000), 0);
            fitting++;
        }
        x.insert(0, 1, 0);
        Check.due("room " + told + ": close()", x.close(), fitting);
        Check.due("room " + told + ": used(0, -1)", x.used(0, -1), want);
        Check.due("room " + told + ": held(0)", x.held(0), fitting);
        for (int k = 0; k < fitting; k++) {
            Check.due("room " + told + ": OVER of part " + k, x.placed(0, k, 3), 0);
        }
    }

    /** A room of 1 is the least there is: one unit fits in it, and can be cut off. */
    private static void oneUnitFitsInTheLeastRoom(int told) {
        InsertMarks x = new InsertMarks(told);
        x.cls(-1, 1, true);
        x.insert(0, 1, 0);
        x.insert(0, 2, 1);
        Check.due("room " + told + ": close()", x.close(), 1);
        Check.partIs(x, 0, 0, 0, 1, 1, 0);
        Check.due("room " + told + ": close()", x.close(), 1);
        Check.partIs(x, 1, 0, 1, 1, 1, 0);
        Check.due("room " + told + ": flush()", x.flush(), 1);
        Check.partIs(x, 2, 0, 1, 1, 1, 0);
    }

    /** A room of 30000 is the greatest there is: one unit more is held. */
    private static void oneUnitTooMuchForTheGreatestRoom(int told) {
        InsertMarks x = new InsertMarks(told);
        x.cls(-1, 1, true);
        x.insert(0, 10000, 0);
        x.insert(0, 10000, 0);
        x.insert(0, 9999, 0);
        x.insert(0, 2, 0);
        Check.due("room " + told + ": close()", x.close(), 4);
        Check.partIs(x, 0, 3, 3, 1, 4, 0);
        Check.heldAre("room " + told, x, 3);
    }
}
