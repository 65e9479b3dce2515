/**
 * Every edge of one insert's fate on a page, and one unit to each side of it: small rooms, least
 * parts and heights are all gone through, beside what already stands there of its class and others.
 */
public final class ClosingGridTest {
    public static void main(String[] args) {
        for (int pageRoom = 1; pageRoom <= 6; pageRoom++) {
            for (int classRoom = -1; classRoom <= 7; classRoom++) {
                for (int others = 0; others <= pageRoom; others++) {
                    for (int own = 0; own <= Math.min(pageRoom - others, roomOf(classRoom, pageRoom)); own++) {
                        heightsAndLeastParts(pageRoom, classRoom, others, own);
                    }
                }
            }
        }
        Check.end();
    }

    private static int roomOf(int classRoom, int pageRoom) {
        return classRoom == -1 ? pageRoom : classRoom;
    }

    private static void heightsAndLeastParts(int pageRoom, int classRoom, int others, int own) {
        int free = Math.min(roomOf(classRoom, pageRoom) - own, pageRoom - others - own);
        for (int least = 0; least <= 4; least++) {
            for (int height = 1; height <= 10; height++) {
                fate(pageRoom, classRoom, others, own, least, height, free);
            }
        }
    }

    private static void fate(int pageRoom, int classRoom, int others, int own, int least, int height, int free) {
        InsertMarks x = new InsertMarks(pageRoom);
        x.cls(classRoom, least, true);
        x.cls(-1, 0, true);
        int standing = 0;
        if (others > 0) {
            x.insert(1, others, 0);
            standing++;
        }
        if (own > 0) {
            x.insert(0, own, 0);
            standing++;
        }
        int insert = x.insert(0, height, 0);
        boolean cut = least > 0 && free >= least && height - free >= least;
        boolean over = height > free && !cut && standing == 0;
        int size = height <= free || over ? height : cut ? free : 0;

        String where = "page room " + pageRoom + ", class room " + classRoom + ", of others " + others
            + ", of its own " + own + ", least " + least + ", height " + height + ": ";
        Check.due(where + "close()", x.close(), standing + (size > 0 ? 1 : 0));
        Check.due(where + "rest", x.about(insert, 0), height - size);
        Check.due(where + "size", x.placed(0, standing, 1), size > 0 ? size : -1);
        Check.due(where + "OVER", x.placed(0, standing, 3), size > 0 ? (over ? 1 : 0) : -1);
        Check.due(where + "held(0)", x.held(0), size < height ? insert : -1);
        Check.due(where + "used(0, -1)", x.used(0, -1), others + own + size);
        Check.due(where + "used(0, 0)", x.used(0, 0), own + size);
    }
}
