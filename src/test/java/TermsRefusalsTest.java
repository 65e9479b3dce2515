import java.util.function.Consumer;
import java.util.function.ToIntFunction;

/**
 * Terms: "REFUSALS change nothing and answer, the first that fits". An object that refused a call
 * is compared with one that never heard it: in all that can be asked, and in what later calls do.
 */
public final class TermsRefusalsTest {
    private static final int MIN = Integer.MIN_VALUE;
    private static final int MAX = Integer.MAX_VALUE;

    public static void main(String[] args) {
        ofAnEmptyObject();
        ofClasses();
        ofInserts();
        ofMarks();
        ofTakingBack();
        ofQuestions();
        whenAllPagesAreClosed();
        whenClassesAreFull();
        whenInsertsAreFull();
        whenMarksAreFull();
        twoReasonsForInsert();
        twoReasonsForMark();
        twoReasonsForCls();
        Check.end();
    }

    private static void refused(String call, Consumer<InsertMarks> before, ToIntFunction<InsertMarks> refusal,
            int want) {
        InsertMarks told = new InsertMarks(20);
        InsertMarks untold = new InsertMarks(20);
        before.accept(told);
        before.accept(untold);
        Check.due(call, refusal.applyAsInt(told), want);
        same("after " + call, allAnswers(told), allAnswers(untold));
        same("later after " + call, goOn(told), goOn(untold));
    }

    private static void same(String when, String got, String want) {
        Check.due(when + " there is\n  " + got + "\n  due is\n  " + want, got.equals(want) ? 1 : 0, 1);
    }

    /** What a caller can ask of the small states below, in some 130 calls. */
    private static String allAnswers(InsertMarks x) {
        StringBuilder text = new StringBuilder();
        for (int i = 0; i < 5; i++) {
            text.append(" count ").append(x.count(i)).append(" held ").append(x.held(i));
        }
        for (int insert = 0; insert < 8; insert++) {
            text.append(" about");
            for (int what = 0; what < 5; what++) {
                text.append(' ').append(x.about(insert, what));
            }
        }
        for (int page = 0; page < 2; page++) {
            text.append(" page ").append(x.used(page, -1)).append(' ').append(x.used(page, 0));
            text.append(' ').append(x.used(page, 1)).append(" placed");
            for (int k = 0; k < 3; k++) {
                for (int what = 0; what < 4; what++) {
                    text.append(' ').append(x.placed(page, k, what));
                }
            }
            text.append(" seen");
            for (int which = 0; which < 3; which++) {
                text.append(' ').append(x.seen(0, page, which)).append(' ').append(x.seen(1, page, which));
            }
        }
        return text.append(" last ").append(x.seen(0, 39, 2)).append(' ').append(x.seen(1, 39, 2)).toString();
    }

    /** What comes next: the numbers that are given, and how the following pages are filled. */
    private static String goOn(InsertMarks x) {
        StringBuilder text = new StringBuilder();
        text.append(" cls ").append(x.cls(3, 1, false));
        text.append(" insert ").append(x.insert(0, 4, 2)).append(' ').append(x.insert(1, 5, 2));
        text.append(" mark ").append(x.mark(0, 17, 2)).append(' ').append(x.mark(1, 18, 3));
        for (int page = 0; page < 3; page++) {
            text.append(" close ").append(x.close()).append(" used ").append(x.used(page, -1));
            text.append(" held ").append(x.held(0)).append(' ').append(x.count(4));
        }
        text.append(" flush ").append(x.flush()).append(" closed ").append(x.count(3));
        for (int insert = 0; insert < 8; insert++) {
            text.append(" about ").append(x.about(insert, 2)).append(' ').append(x.about(insert, 3));
        }
        return text.append(" seen ").append(x.seen(0, 2, 0)).append(' ').append(x.seen(0, 2, 1)).toString();
    }

    /** Page 0 is closed: 0 is placed, 1 held in part, 2 held, 3 taken back, 4 and 5 for pages 1 and 4. */
    private static void inTheMiddle(InsertMarks x) {
        x.cls(-1, 3, true);
        x.cls(12, 0, false);
        x.insert(1, 12, 0);
        x.insert(0, 14, 0);
        x.insert(1, 2, 0);
        x.insert(0, 2, 0);
        x.insert(0, 6, 1);
        x.insert(1, 7, 4);
        x.mark(0, 11, 0);
        x.mark(0, 12, 0);
        x.mark(1, 13, 1);
        x.cancel(3);
        x.close();
    }

    private static void ofAnEmptyObject() {
        Consumer<InsertMarks> nothing = x -> { };
        refused("insert(0, 5, 0)", nothing, x -> x.insert(0, 5, 0), -1);
        refused("mark(0, 5, 0)", nothing, x -> x.mark(0, 5, 0), -1);
        refused("cancel(0)", nothing, x -> x.cancel(0), -1);
        refused("cls(-2, 0, true)", nothing, x -> x.cls(-2, 0, true), -2);
        refused("flush()", nothing, x -> x.flush(), 0);
    }

    private static void ofClasses() {
        for (int room : new int[] {-2, 10001, MIN, MAX}) {
            refused("cls(" + room + ", 1, true)", TermsRefusalsTest::inTheMiddle, x -> x.cls(room, 1, true), -2);
        }
        for (int least : new int[] {-1, 10001, MIN, MAX}) {
            refused("cls(1, " + least + ", true)", TermsRefusalsTest::inTheMiddle, x -> x.cls(1, least, true), -2);
        }
    }

    private static void ofInserts() {
        for (int cls : new int[] {-1, 2, 7, 8, MIN, MAX}) {
            refused("insert(" + cls + ", 5, 1)", TermsRefusalsTest::inTheMiddle, x -> x.insert(cls, 5, 1), -1);
        }
        for (int height : new int[] {0, -1, 10001, MIN, MAX}) {
            refused("insert(0, " + height + ", 1)", TermsRefusalsTest::inTheMiddle, x -> x.insert(0, height, 1), -2);
        }
        for (int page : new int[] {-1, 40, MIN, MAX}) {
            refused("insert(0, 5, " + page + ")", TermsRefusalsTest::inTheMiddle, x -> x.insert(0, 5, page), -2);
        }
        refused("insert(0, 5, 0)", TermsRefusalsTest::inTheMiddle, x -> x.insert(0, 5, 0), -3);
    }

    private static void ofMarks() {
        for (int cls : new int[] {-1, 2, 7, 8, MIN, MAX}) {
            refused("mark(" + cls + ", 5, 1)", TermsRefusalsTest::inTheMiddle, x -> x.mark(cls, 5, 1), -1);
        }
        for (int page : new int[] {-1, 40, MIN, MAX}) {
            refused("mark(0, 5, " + page + ")", TermsRefusalsTest::inTheMiddle, x -> x.mark(0, 5, page), -2);
        }
        refused("mark(0, 5, 0)", TermsRefusalsTest::inTheMiddle, x -> x.mark(0, 5, 0), -3);
    }

    private static void ofTakingBack() {
        for (int insert : new int[] {-1, 6, 199, 200, MIN, MAX}) {
            refused("cancel(" + insert + ")", TermsRefusalsTest::inTheMiddle, x -> x.cancel(insert), -1);
        }
        refused("cancel(0), placed", TermsRefusalsTest::inTheMiddle, x -> x.cancel(0), -3);
        refused("cancel(1), held in part", TermsRefusalsTest::inTheMiddle, x -> x.cancel(1), -3);
        refused("cancel(3), taken back", TermsRefusalsTest::inTheMiddle, x -> x.cancel(3), -3);
    }

    private static void ofQuestions() {
        for (int wrong : new int[] {-2, 40, 41, 200, MIN, MAX}) {
            refused("placed(" + wrong + ", 0, 0)", TermsRefusalsTest::inTheMiddle, x -> x.placed(wrong, 0, 0), -1);
            refused("placed(0, " + wrong + ", 0)", TermsRefusalsTest::inTheMiddle, x -> x.placed(0, wrong, 0), -1);
            refused("placed(0, 0, " + wrong + ")", TermsRefusalsTest::inTheMiddle, x -> x.placed(0, 0, wrong), -1);
            refused("about(" + wrong + ", 0)", TermsRefusalsTest::inTheMiddle, x -> x.about(wrong, 0), -1);
            refused("about(0, " + wrong + ")", TermsRefusalsTest::inTheMiddle, x -> x.about(0, wrong), -2);
            refused("held(" + wrong + ")", TermsRefusalsTest::inTheMiddle, x -> x.held(wrong), -1);
            refused("used(" + wrong + ", 0)", TermsRefusalsTest::inTheMiddle, x -> x.used(wrong, 0), -1);
            refused("used(0, " + wrong + ")", TermsRefusalsTest::inTheMiddle, x -> x.used(0, wrong), -1);
            refused("seen(" + wrong + ", 0, 2)", TermsRefusalsTest::inTheMiddle, x -> x.seen(wrong, 0, 2), 0);
            refused("seen(0, " + wrong + ", 2)", TermsRefusalsTest::inTheMiddle, x -> x.seen(0, wrong, 2), 0);
            refused("seen(0, 0, " + wrong + ")", TermsRefusalsTest::inTheMiddle, x -> x.seen(0, 0, wrong), 0);
            refused("count(" + wrong + ")", TermsRefusalsTest::inTheMiddle, x -> x.count(wrong), -2);
        }
    }

    private static void whenAllPagesAreClosed() {
        Consumer<InsertMarks> allClosed = x -> {
            x.cls(1, 1, true);
            x.insert(0, 50, 0);
            x.insert(0, 3, 39);
            x.mark(0, 8, 39);
            for (int page = 0; page < 40; page++) {
                x.close();
            }
        };
        refused("close()", allClosed, x -> x.close(), -3);
        refused("flush()", allClosed, x -> x.flush(), 0);
        refused("insert(0, 1, 39)", allClosed, x -> x.insert(0, 1, 39), -3);
        refused("insert(0, 1, 40)", allClosed, x -> x.insert(0, 1, 40), -2);
        refused("mark(0, 1, 39)", allClosed, x -> x.mark(0, 1, 39), -3);
        refused("mark(0, 1, 40)", allClosed, x -> x.mark(0, 1, 40), -2);
    }

    private static void whenClassesAreFull() {
        Consumer<InsertMarks> full = x -> {
            inTheMiddle(x);
            for (int cls = 2; cls < 8; cls++) {
                x.cls(cls, 0, true);
            }
        };
        refused("the ninth cls", full, x -> x.cls(1, 1, true), -4);
    }

    private static void whenInsertsAreFull() {
        Consumer<InsertMarks> full = x -> {
            inTheMiddle(x);
            for (int insert = 6; insert < 200; insert++) {
                x.insert(insert % 2, 1, 1 + insert % 3);
            }
        };
        refused("one insert too many", full, x -> x.insert(0, 1, 1), -4);
    }

    /** With 300 marks told there are too few calls left to go on: the next page alone is closed. */
    private static void whenMarksAreFull() {
        String[] answers = new String[2];
        for (int twin = 0; twin < 2; twin++) {
            InsertMarks x = new InsertMarks(20);
            inTheMiddle(x);
            for (int i = 3; i < 300; i++) {
                x.mark(i % 2, i, 1 + i % 3);
            }
            if (twin == 1) {
                Check.due("one mark too many", x.mark(0, 7777, 1), -4);
            }
            answers[twin] = allAnswers(x) + " close " + x.close() + " seen " + x.seen(0, 1, 2);
        }
        same("after one mark too many", answers[1], answers[0]);
    }

    /** "the first that fits: -1 .., -2 .., -3 .., -4 ..", for every two of them. */
    private static void twoReasonsForInsert() {
        InsertMarks x = new InsertMarks(20);
        inTheMiddle(x);
        Check.due("-1 and -2, height", x.insert(2, 0, 1), -1);
        Check.due("-1 and -2, page", x.insert(2, 1, 40), -1);
        Check.due("-1 and -3", x.insert(2, 1, 0), -1);
        Check.due("-2 and -3", x.insert(0, 0, 0), -2);
        for (int insert = 6; insert < 200; insert++) {
            x.insert(0, 1, 1);
        }
        Check.due("-1 and -4", x.insert(2, 1, 1), -1);
        Check.due("-2 and -4, height", x.insert(0, 10001, 1), -2);
        Check.due("-2 and -4, page", x.insert(0, 1, -1), -2);
        Check.due("-3 and -4", x.insert(0, 1, 0), -3);
        Check.due("-1, -2, -3 and -4", x.insert(-1, 0, 0), -1);
        Check.due("-2, -3 and -4", x.insert(0, 0, 0), -2);
        Check.due("-4 alone", x.insert(0, 1, 1), -4);
    }

    private static void twoReasonsForMark() {
        InsertMarks x = new InsertMarks(20);
        inTheMiddle(x);
        Check.due("-1 and -2", x.mark(2, 1, 40), -1);
        Check.due("-1 and -3", x.mark(2, 1, 0), -1);
        for (int i = 3; i < 300; i++) {
            x.mark(0, 1, 1);
        }
        Check.due("-1 and -4", x.mark(2, 1, 1), -1);
        Check.due("-2 and -4", x.mark(0, 1, 40), -2);
        Check.due("-3 and -4", x.mark(0, 1, 0), -3);
        Check.due("-1, -2 and -4", x.mark(-1, 1, -1), -1);
        Check.due("-4 alone", x.mark(0, 1, 1), -4);
    }

    private static void twoReasonsForCls() {
        InsertMarks x = new InsertMarks(20);
        Check.due("room and least", x.cls(-2, -1, true), -2);
        for (int cls = 0; cls < 8; cls++) {
            x.cls(1, 1, true);
        }
        Check.due("-2 and -4, room", x.cls(10001, 1, true), -2);
        Check.due("-2 and -4, least", x.cls(1, 10001, true), -2);
        Check.due("-4 alone", x.cls(1, 1, true), -4);
    }
}
