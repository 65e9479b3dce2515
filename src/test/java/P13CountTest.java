/** Promise 13: how many classes, inserts, marks, closed pages, held inserts; -2 for others. */
public final class P13CountTest {
    public static void main(String[] args) {
        eachOfThem();
        others();
        Check.end();
    }

    private static void eachOfThem() {
        InsertMarks x = new InsertMarks(10);
        Check.countsAre("new", x, 0, 0, 0, 0, 0);
        x.cls(-1, 0, true);
        x.cls(-1, 0, true);
        Check.countsAre("classes", x, 2, 0, 0, 0, 0);
        x.insert(0, 6, 0);
        x.insert(0, 6, 0);
        x.insert(0, 6, 0);
        x.insert(1, 6, 4);
        Check.countsAre("inserts", x, 2, 4, 0, 0, 0);
        x.mark(0, 6, 0);
        Check.countsAre("marks", x, 2, 4, 1, 0, 0);
        x.close();
        Check.countsAre("closed", x, 2, 4, 1, 1, 2);
        x.cancel(2);
        Check.countsAre("taken back", x, 2, 4, 1, 1, 1);
        x.cancel(3);
        Check.countsAre("one that was not held", x, 2, 4, 1, 1, 1);
        x.flush();
        Check.countsAre("flushed", x, 2, 4, 1, 2, 0);
    }

    private static void others() {
        InsertMarks x = new InsertMarks(10);
        int[] bad = {-1, 5, 6, Integer.MIN_VALUE, Integer.MAX_VALUE};
        for (int what : bad) {
            Check.due("count(" + what + ")", x.count(what), -2);
        }
    }
}
