/** The example of README.md, call by call: a reader who tries it gets what stands there. */
public final class ReadmeTest {
    public static void main(String[] args) {
        InsertMarks x = new InsertMarks(100);
        int notes = x.cls(50, 10, true);
        Check.due("cls(50, 10, true)", notes, 0);
        int a = x.insert(notes, 30, 0);
        Check.due("insert(notes, 30, 0)", a, 0);
        int b = x.insert(notes, 45, 0);
        Check.due("insert(notes, 45, 0)", b, 1);
        Check.due("mark(notes, 7, 0)", x.mark(notes, 7, 0), 1);
        Check.due("close()", x.close(), 2);
        Check.due("placed(0, 1, 1)", x.placed(0, 1, 1), 20);
        Check.due("held(0)", x.held(0), b);
        Check.due("about(b, 0)", x.about(b, 0), 25);
        Check.due("cancel(b)", x.cancel(b), -3);
        Check.due("flush()", x.flush(), 1);
        Check.due("used(1, notes)", x.used(1, notes), 25);
        Check.due("seen(notes, 1, 0)", x.seen(notes, 1, 0), 7);
        Check.due("count(3)", x.count(3), 2);
        Check.end();
    }
}
