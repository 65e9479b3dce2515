/** Promise 4: a mark: how many there are. -1 no such class; -2 page; -3 closed; -4. */
public final class P04MarkTest {
    private static final int MIN = Integer.MIN_VALUE;
    private static final int MAX = Integer.MAX_VALUE;

    public static void main(String[] args) {
        countsOfAllClasses();
        refusals();
        noRoomForMoreThanThreeHundred();
        Check.end();
    }

    private static void countsOfAllClasses() {
        InsertMarks x = new InsertMarks(100);
        x.cls(-1, 0, true);
        x.cls(-1, 0, true);
        Check.due("mark(0, 0, 0)", x.mark(0, 0, 0), 1);
        Check.due("mark(1, MIN, 39)", x.mark(1, MIN, 39), 2);
        Check.due("mark(0, MAX, 0)", x.mark(0, MAX, 0), 3);
        Check.due("count(2)", x.count(2), 3);
        Check.due("seen(0, 0, 1)", x.seen(0, 0, 1), 0);
        Check.due("seen(0, 0, 2)", x.seen(0, 0, 2), MAX);
        Check.due("seen(1, 39, 1)", x.seen(1, 39, 1), MIN);
    }

    private static void refusals() {
        InsertMarks x = new InsertMarks(100);
        x.cls(-1, 0, true);
        x.close();
        int[] badClasses = {-1, 1, 8, MIN, MAX};
        for (int cls : badClasses) {
            Check.due("mark(" + cls + ", 5, 1)", x.mark(cls, 5, 1), -1);
            Check.due("mark(" + cls + ", 5, 0)", x.mark(cls, 5, 0), -1);
            Check.due("mark(" + cls + ", 5, 40)", x.mark(cls, 5, 40), -1);
        }
        int[] badPages = {-1, 40, MIN, MAX};
        for (int page : badPages) {
            Check.due("mark(0, 5, " + page + ")", x.mark(0, 5, page), -2);
        }
        Check.due("mark(0, 5, 0)", x.mark(0, 5, 0), -3);
        Check.due("count(2)", x.count(2), 0);
        Check.due("seen(0, 39, 2)", x.seen(0, 39, 2), 0);
        Check.due("mark(0, 5, 1)", x.mark(0, 5, 1), 1);
    }

    private static void noRoomForMoreThanThreeHundred() {
        InsertMarks x = new InsertMarks(100);
        x.cls(-1, 0, true);
        for (int i = 0; i < 300; i++) {
            Check.due("mark number " + i, x.mark(0, i, i % 40), i + 1);
        }
        Check.due("one more", x.mark(0, 7777, 0), -4);
        Check.due("-1 before -4", x.mark(1, 7777, 0), -1);
        Check.due("-2 before -4", x.mark(0, 7777, 40), -2);
        x.close();
        Check.due("-3 before -4", x.mark(0, 7777, 0), -3);
        Check.due("count(2)", x.count(2), 300);
        Check.due("seen(0, 0, 1)", x.seen(0, 0, 1), 0);
        Check.due("seen(0, 0, 2)", x.seen(0, 0, 2), 280);
    }
}
