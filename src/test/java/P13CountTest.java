/** Promise 13: how many classes, inserts, marks, closed pages, held inserts; -2 for others. */
public final class P13CountTest {
    public static void main(String[] args) {
        eachOfThem();
        others();
        allAtTheirMost();
        othersBesideFullOnes();
        Check.end();
    }

    private static void eachOfThem() {
        InsertMarks x = new InsertMarks(10);
        Check.countsAre("new", x, 0, 0, 0, 0, 0);
        x.cls(-1, 0, true);
        x.cls(-1, 0, true);
        Check.countsAre("classes", x, 2, 0, 0, 0, 0);
        x.insert(0, 6, 0);
        x.insert(0, 6, 0);
        x.insert(0, 6, 0);
        x.insert(1, 6, 4);
        Check.countsAre("inserts", x, 2, 4, 0, 0, 0);
        x.mark(0, 6, 0);
        Check.countsAre("marks", x, 2, 4, 1, 0, 0);
        x.close();
        Check.countsAre("closed", x, 2, 4, 1, 1, 2);
        x.cancel(2);
        Check.countsAre("taken back", x, 2, 4, 1, 1, 1);
        x.cancel(3);
        Check.countsAre("one that was not held", x, 2, 4, 1, 1, 1);
        x.flush();
        Check.countsAre("flushed", x, 2, 4, 1, 2, 0);
    }

    private static void others() {
        InsertMarks x = new InsertMarks(10);
        int[] bad = {-1, 5, 6, Integer.MIN_VALUE, Integer.MAX_VALUE};
        for (int what : bad) {
            Check.due("count(" + what + ")", x.count(what), -2);
        }
    }

    private static void allAtTheirMost() {
        InsertMarks x = new InsertMarks(1);
        for (int cls = 0; cls < 8; cls++) {
            x.cls(-1, 0, true);
        }
        for (int i = 0; i < 200; i++) {
            x.insert(i % 8, 1, 39);
        }
        for (int page = 0; page < 40; page++) {
            x.close();
        }
        Check.countsAre("full", x, 8, 200, 0, 40, 199);
        InsertMarks y = new InsertMarks(1);
        y.cls(-1, 0, true);
        for (int i = 0; i < 300; i++) {
            y.mark(0, i, 39);
        }
        Check.countsAre("full of marks", y, 1, 0, 300, 0, 0);
    }

    private static void othersBesideFullOnes() {
        InsertMarks x = new InsertMarks(1);
        x.cls(-1, 0, true);
        x.insert(0, 1, 0);
        x.insert(0, 1, 0);
        x.mark(0, 1, 0);
        x.close();
        Check.due("count(-1)", x.count(-1), -2);
        Check.due("count(5)", x.count(5), -2);
    }
}
