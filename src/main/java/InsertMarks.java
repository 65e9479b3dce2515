/**
 * Inserts and marks of pages: what is set at the foot or head of pages by classes, with their
 * rooms, cut and held over to later pages in an order that is told, numbered by page or on and on;
 * marks of classes with what is first, last, and before on each page.
 */
public final class InsertMarks {

    private static final int UNKNOWN = -1;
    private static final int OUTSIDE = -2;
    private static final int WRONG_STATE = -3;
    private static final int NO_ROOM = -4;

    private static final int NONE = -1;
    private static final int ROOM_OF_PAGE = -1;
    private static final int ALL_CLASSES = -1;

    private static final int MOST_PAGES = 40;
    private static final int MOST_CLASSES = 8;
    private static final int MOST_INSERTS = 200;
    private static final int MOST_MARKS = 300;
    private static final int MOST_SIZE = 10000;
    private static final int MOST_PAGE_ROOM = 30000;

    private final int pageRoom;
    private final Kind[] kinds = new Kind[MOST_CLASSES];
    private final Insert[] inserts = new Insert[MOST_INSERTS];
    private final Page[] pages = new Page[MOST_PAGES];
    private final Line line = new Line();
    private int kindCount;
    private int insertCount;
    private int markCount;
    private int closedCount;

    public InsertMarks(int room) {
        pageRoom = Math.max(1, Math.min(room, MOST_PAGE_ROOM));
    }

    public int cls(int room, int least, boolean anew) {
        if (!isWithin(room, ROOM_OF_PAGE, MOST_SIZE) || !isWithin(least, 0, MOST_SIZE)) {
            return OUTSIDE;
        }
        if (kindCount >= MOST_CLASSES) {
            return NO_ROOM;
        }
        int number = kindCount;
        kinds[number] = new Kind(room == ROOM_OF_PAGE ? pageRoom : room, least, anew);
        kindCount++;
        return number;
    }

    public int insert(int cls, int height, int page) {
        Kind kind = kindAt(cls);
        if (kind == null) {
            return UNKNOWN;
        }
        if (!isWithin(height, 1, MOST_SIZE) || !isPage(page)) {
            return OUTSIDE;
        }
        if (isClosed(page)) {
            return WRONG_STATE;
        }
        if (insertCount >= MOST_INSERTS) {
            return NO_ROOM;
        }
        int index = insertCount;
        inserts[index] = new Insert(index, kind, height, page);
        insertCount++;
        return index;
    }

    public int mark(int cls, int v, int page) {
        Kind kind = kindAt(cls);
        if (kind == null) {
            return UNKNOWN;
        }
        if (!isPage(page)) {
            return OUTSIDE;
        }
        if (isClosed(page)) {
            return WRONG_STATE;
        }
        if (markCount >= MOST_MARKS) {
            return NO_ROOM;
        }
        kind.addMark(page, v);
        markCount++;
        return markCount;
    }

    public int close() {
        if (closedCount >= MOST_PAGES) {
            return WRONG_STATE;
        }
        return closeNextPage();
    }

    public int flush() {
        int openPages = MOST_PAGES - closedCount;
        int flushed = 0;
        while (flushed < openPages && line.length > 0) {
            closeNextPage();
            flushed++;
        }
        return flushed;
    }

    public int cancel(int insert) {
        Insert found = insertAt(insert);
        if (found == null) {
            return UNKNOWN;
        }
        if (found.partCount > 0 || found.isTakenBack()) {
            return WRONG_STATE;
        }
        found.rest = 0;
        line.takeOut(insert);
        return 1;
    }

    public int placed(int page, int k, int what) {
        Page closed = closedPageAt(page);
        if (closed == null) {
            return NONE;
        }
        Part part = closed.partAt(k);
        if (part == null) {
            return NONE;
        }
        switch (what) {
            case 0:
                return part.owner.index;
            case 1:
                return part.size;
            case 2:
                return part.owner.number;
            case 3:
                return part.over ? 1 : 0;
            default:
                return NONE;
        }
    }

    public int about(int insert, int what) {
        Insert found = insertAt(insert);
        if (found == null) {
            return UNKNOWN;
        }
        switch (what) {
            case 0:
                return found.rest;
            case 1:
                return found.firstPage;
            case 2:
                return found.latestPage;
            case 3:
                return found.number;
            case 4:
                return found.partCount;
            default:
                return OUTSIDE;
        }
    }

    public int held(int k) {
        return line.indexAt(k);
    }

    public int used(int page, int cls) {
        Kind kind = kindAt(cls);
        if (!isPage(page) || (kind == null && cls != ALL_CLASSES)) {
            return UNKNOWN;
        }
        if (kind != null) {
            return kind.sizeOn[page];
        }
        Page closed = closedPageAt(page);
        return closed == null ? 0 : closed.size;
    }

    public int seen(int cls, int page, int which) {
        Kind kind = kindAt(cls);
        if (kind == null || !isPage(page)) {
            return 0;
        }
        switch (which) {
            case 0:
                return kind.topMark(page);
            case 1:
                return kind.firstMark(page);
            case 2:
                return kind.lastMark(page);
            default:
                return 0;
        }
    }

    public int count(int what) {
        switch (what) {
            case 0:
                return kindCount;
            case 1:
                return insertCount;
            case 2:
                return markCount;
            case 3:
                return closedCount;
            case 4:
                return line.length;
            default:
                return OUTSIDE;
        }
    }

    private static boolean isWithin(int value, int low, int high) {
        return low <= value && value <= high;
    }

    private static boolean isPage(int page) {
        return isWithin(page, 0, MOST_PAGES - 1);
    }

    private boolean isClosed(int page) {
        return page < closedCount;
    }

    private Kind kindAt(int cls) {
        return isWithin(cls, 0, MOST_CLASSES - 1) ? kinds[cls] : null;
    }

    private Insert insertAt(int index) {
        return isWithin(index, 0, MOST_INSERTS - 1) ? inserts[index] : null;
    }

    private Page closedPageAt(int page) {
        return isPage(page) ? pages[page] : null;
    }

    /** Only for callers that know that a page is left to be closed; answers how many parts it has. */
    private int closeNextPage() {
        lineUpInsertsOf(closedCount);
        startPageInKinds();
        Page page = new Page(closedCount, line.length);
        goThroughLine(page);
        pages[closedCount] = page;
        closedCount++;
        return page.partCount;
    }

    /** What stays held moves up in the same row: it never overtakes the place that is read. */
    private void goThroughLine(Page page) {
        int queued = line.length;
        line.length = 0;
        for (int i = 0; i < queued; i++) {
            int index = line.row[i];
            Insert insert = insertAt(index);
            if (insert != null && goThrough(page, insert)) {
                line.append(index);
            }
        }
    }

    /**
     * The line holds already what is left of earlier pages, since an insert that was gone through
     * once and has a rest is held: only those told for this very page are missing.
     */
    private void lineUpInsertsOf(int page) {
        for (int i = 0; i < insertCount; i++) {
            Insert insert = insertAt(i);
            if (insert != null && insert.page == page && insert.rest > 0) {
                line.append(i);
            }
        }
    }

    private void startPageInKinds() {
        for (int i = 0; i < kindCount; i++) {
            Kind kind = kindAt(i);
            if (kind != null) {
                kind.startPage();
            }
        }
    }

    /** Places what may stand on the page; answers whether the insert is held, wholly or in part. */
    private boolean goThrough(Page page, Insert insert) {
        Kind kind = insert.kind;
        if (kind.holds) {
            return true;
        }
        int free = freeOn(page, kind);
        if (insert.rest <= free) {
            page.place(insert, insert.rest, false);
        } else if (kind.mayCut(insert.rest, free)) {
            page.place(insert, free, false);
            kind.holds = true;
        } else if (page.size == 0) {
            page.place(insert, insert.rest, true);
        } else {
            kind.holds = true;
        }
        return kind.holds;
    }

    private int freeOn(Page page, Kind kind) {
        int ofKind = kind.room - kind.sizeOn[page.number];
        int ofPage = pageRoom - page.size;
        return Math.max(0, Math.min(ofKind, ofPage));
    }

    /** A class of inserts and marks. */
    private static final class Kind {
        final int room;
        final int least;
        final boolean anew;
        final int[] sizeOn = new int[MOST_PAGES];
        final boolean[] hasMark = new boolean[MOST_PAGES];
        final int[] firstTold = new int[MOST_PAGES];
        final int[] lastTold = new int[MOST_PAGES];
        int latestNumber;
        /** Whether an insert of it is held on the page that is being closed. */
        boolean holds;

        Kind(int room, int least, boolean anew) {
            this.room = room;
            this.least = least;
            this.anew = anew;
        }

        void startPage() {
            holds = false;
            if (anew) {
                latestNumber = 0;
            }
        }

        boolean mayCut(int rest, int free) {
            return least > 0 && free >= least && rest - free >= least;
        }

        int nextNumber() {
            latestNumber++;
            return latestNumber;
        }

        void addMark(int page, int value) {
            if (!hasMark[page]) {
                hasMark[page] = true;
                firstTold[page] = value;
            }
            lastTold[page] = value;
        }

        int topMark(int page) {
            for (int before = page - 1; before >= 0; before--) {
                if (hasMark[before]) {
                    return lastTold[before];
                }
            }
            return 0;
        }

        int firstMark(int page) {
            return hasMark[page] ? firstTold[page] : topMark(page);
        }

        int lastMark(int page) {
            return hasMark[page] ? lastTold[page] : topMark(page);
        }
    }

    /** An insert, with what has become of it. */
    private static final class Insert {
        final int index;
        final Kind kind;
        final int page;
        int rest;
        int number = NONE;
        int firstPage = NONE;
        int latestPage = NONE;
        int partCount;

        Insert(int index, Kind kind, int height, int page) {
            this.index = index;
            this.kind = kind;
            this.page = page;
            this.rest = height;
        }

        /** Taking back alone leaves no rest where there is no part. */
        boolean isTakenBack() {
            return rest == 0 && partCount == 0;
        }

        void addPart(int onPage, int size) {
            if (partCount == 0) {
                firstPage = onPage;
                number = kind.nextNumber();
            }
            latestPage = onPage;
            partCount++;
            rest -= size;
        }
    }

    /** What of an insert stands on one page. */
    private static final class Part {
        final Insert owner;
        final int size;
        final boolean over;

        Part(Insert owner, int size, boolean over) {
            this.owner = owner;
            this.size = size;
            this.over = over;
        }
    }

    /** A page that is closed, or is being closed. */
    private static final class Page {
        final int number;
        final Part[] parts;
        int partCount;
        int size;

        /** An insert has one part at most on a page, so mostParts is how many are gone through. */
        Page(int number, int mostParts) {
            this.number = number;
            this.parts = new Part[Math.max(0, mostParts)];
        }

        void place(Insert insert, int partSize, boolean over) {
            if (partCount >= parts.length) {
                return;
            }
            insert.addPart(number, partSize);
            parts[partCount] = new Part(insert, partSize, over);
            partCount++;
            size += partSize;
            insert.kind.sizeOn[number] += partSize;
        }

        Part partAt(int k) {
            return isWithin(k, 0, partCount - 1) ? parts[k] : null;
        }
    }

    /** The held inserts, by their indexes, in the order in which they were gone through. */
    private static final class Line {
        final int[] row = new int[MOST_INSERTS];
        int length;

        void append(int index) {
            if (length < row.length) {
                row[length] = index;
                length++;
            }
        }

        int indexAt(int k) {
            return isWithin(k, 0, length - 1) ? row[k] : NONE;
        }

        void takeOut(int index) {
            int kept = 0;
            for (int i = 0; i < length; i++) {
                if (row[i] != index) {
                    row[kept] = row[i];
                    kept++;
                }
            }
            length = kept;
        }
    }
}
