/** Promise 2: a class: its number. -2 room not -1 .. 10000, least not 0 .. 10000; -4. */
public final class P02ClsTest {
    public static void main(String[] args) {
        ranges();
        noRoomForTheNinth();
        roomOfAClass();
        roomOfThePage();
        leastPart();
        numbersAnewOrOnAndOn();
        Check.end();
    }

    private static void ranges() {
        InsertMarks x = new InsertMarks(100);
        int[] badRooms = {-2, 10001, Integer.MIN_VALUE, Integer.MAX_VALUE};
        for (int room : badRooms) {
            Check.due("cls(" + room + ", 0, true)", x.cls(room, 0, true), -2);
        }
        int[] badLeasts = {-1, 10001, Integer.MIN_VALUE, Integer.MAX_VALUE};
        for (int least : badLeasts) {
            Check.due("cls(0, " + least + ", false)", x.cls(0, least, false), -2);
        }
        Check.due("count(0)", x.count(0), 0);
        Check.due("cls(-1, 0, true)", x.cls(-1, 0, true), 0);
        Check.due("cls(0, 10000, false)", x.cls(0, 10000, false), 1);
        Check.due("cls(10000, 0, true)", x.cls(10000, 0, true), 2);
        Check.due("count(0)", x.count(0), 3);
    }

    private static void noRoomForTheNinth() {
        InsertMarks x = new InsertMarks(100);
        for (int i = 0; i < 8; i++) {
            Check.due("cls number " + i, x.cls(i, i, true), i);
        }
        Check.due("the ninth cls", x.cls(5, 5, true), -4);
        Check.due("the ninth cls, room outside", x.cls(-2, 5, true), -2);
        Check.due("the ninth cls, least outside", x.cls(5, -1, true), -2);
        Check.due("count(0)", x.count(0), 8);
        Check.due("insert(7, 5, 0)", x.insert(7, 5, 0), 0);
        Check.due("insert(8, 5, 0)", x.insert(8, 5, 0), -1);
    }

    private static void roomOfAClass() {
        InsertMarks x = new InsertMarks(100);
        x.cls(50, 0, true);
        x.cls(60, 0, true);
        x.insert(0, 50, 0);
        x.insert(0, 1, 0);
        x.insert(1, 50, 0);
        x.insert(1, 1, 0);
        Check.due("close()", x.close(), 2);
        Check.due("used(0, 0)", x.used(0, 0), 50);
        Check.due("used(0, 1)", x.used(0, 1), 50);
        Check.heldAre("rooms are full", x, 1, 3);
    }

    private static void roomOfThePage() {
        InsertMarks x = new InsertMarks(20000);
        x.cls(-1, 0, true);
        x.cls(10000, 0, true);
        x.insert(0, 7000, 0);
        x.insert(0, 8000, 0);
        x.insert(1, 5000, 0);
        x.insert(0, 1, 0);
        Check.due("close()", x.close(), 3);
        Check.due("used(0, 0)", x.used(0, 0), 15000);
        Check.due("used(0, -1)", x.used(0, -1), 20000);
        Check.heldAre("the page is full", x, 3);
    }

    private static void leastPart() {
        InsertMarks x = new InsertMarks(100);
        x.cls(20, 0, true);
        x.cls(20, 10, true);
        x.cls(20, 1, true);
        x.insert(2, 10, 0);
        for (int cls = 0; cls < 3; cls++) {
            x.insert(cls, 30, 0);
        }
        Check.due("close()", x.close(), 3);
        Check.partIs(x, 0, 0, 0, 10, 1, 0);
        Check.partIs(x, 0, 1, 2, 20, 1, 0);
        Check.partIs(x, 0, 2, 3, 10, 2, 0);
        Check.heldAre("cut or not", x, 1, 2, 3);
    }

    private static void numbersAnewOrOnAndOn() {
        InsertMarks x = new InsertMarks(100);
        x.cls(-1, 0, true);
        x.cls(-1, 0, false);
        for (int page = 0; page < 3; page++) {
            for (int cls = 0; cls < 2; cls++) {
                x.insert(cls, 5, page);
                x.insert(cls, 5, page);
            }
            x.close();
        }
        int[] want = {1, 2, 1, 2, 1, 2, 3, 4, 1, 2, 5, 6};
        for (int i = 0; i < want.length; i++) {
            Check.due("about(" + i + ", 3)", x.about(i, 3), want[i]);
        }
    }
}
