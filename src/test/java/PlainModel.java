import java.util.ArrayList;
import java.util.List;

/**
 * The document again, as a log of what was told and placed: every answer is searched in it anew.
 * It shares no way of holding the state with the class, so that a fault is not made twice.
 */
final class PlainModel {
    private record Cls(int room, int least, boolean anew) { }

    private record Told(int cls, int height, int page) { }

    private record Mark(int cls, int v, int page) { }

    private record Part(int page, int insert, int size, int number, boolean over) { }

    private final int room;
    private final List<Cls> classes = new ArrayList<>();
    private final List<Told> inserts = new ArrayList<>();
    private final List<Mark> marks = new ArrayList<>();
    private final List<Part> parts = new ArrayList<>();
    private final List<Integer> takenBack = new ArrayList<>();
    private List<Integer> goneThrough = new ArrayList<>();
    private int closed = 0;

    PlainModel(int room) {
        this.room = room < 1 ? 1 : room > 30000 ? 30000 : room;
    }

    int cls(int classRoom, int least, boolean anew) {
        if (classRoom < -1 || classRoom > 10000 || least < 0 || least > 10000) return -2;
        if (classes.size() == 8) return -4;
        classes.add(new Cls(classRoom, least, anew));
        return classes.size() - 1;
    }

    int insert(int cls, int height, int page) {
        if (cls < 0 || cls >= classes.size()) return -1;
        if (height < 1 || height > 10000 || page < 0 || page > 39) return -2;
        if (page < closed) return -3;
        if (inserts.size() == 200) return -4;
        inserts.add(new Told(cls, height, page));
        return inserts.size() - 1;
    }

    int mark(int cls, int v, int page) {
        if (cls < 0 || cls >= classes.size()) return -1;
        if (page < 0 || page > 39) return -2;
        if (page < closed) return -3;
        if (marks.size() == 300) return -4;
        marks.add(new Mark(cls, v, page));
        return marks.size();
    }

    int close() {
        if (closed == 40) return -3;
        List<Integer> order = new ArrayList<>();
        for (int i : goneThrough) if (rest(i) > 0) order.add(i);
        for (int i = 0; i < inserts.size(); i++) {
            if (inserts.get(i).page <= closed && rest(i) > 0 && !order.contains(i)) order.add(i);
        }
        List<Integer> heldClasses = new ArrayList<>();
        for (int i : order) {
            goThrough(i, heldClasses);
        }
        goneThrough = order;
        closed++;
        return (int) parts.stream().filter(p -> p.page == closed - 1).count();
    }

    private void goThrough(int i, List<Integer> heldClasses) {
        int cls = inserts.get(i).cls;
        Cls c = classes.get(cls);
        if (heldClasses.contains(cls)) return;
        int classRoom = c.room == -1 ? room : c.room;
        int free = Math.max(0, Math.min(classRoom - standing(closed, cls), room - standing(closed, -1)));
        int rest = rest(i);
        if (rest <= free) {
            place(i, rest, false);
        } else if (c.least != 0 && free >= c.least && rest - free >= c.least) {
            place(i, free, false);
            heldClasses.add(cls);
        } else if (standing(closed, -1) == 0) {
            place(i, rest, true);
        } else {
            heldClasses.add(cls);
        }
    }

    private void place(int i, int size, boolean over) {
        int number = numberOf(i);
        if (number == -1) {
            number = 1;
            for (int j = 0; j < inserts.size(); j++) {
                boolean counts = j != i && inserts.get(j).cls == inserts.get(i).cls && firstPage(j) != -1
                    && (!classes.get(inserts.get(i).cls).anew || firstPage(j) == closed);
                if (counts) number++;
            }
        }
        parts.add(new Part(closed, i, size, number, over));
    }

    private int standing(int page, int cls) {
        int sum = 0;
        for (Part p : parts) {
            if (p.page == page && (cls == -1 || inserts.get(p.insert).cls == cls)) sum += p.size;
        }
        return sum;
    }

    private int rest(int i) {
        if (takenBack.contains(i)) return 0;
        int rest = inserts.get(i).height;
        for (Part p : parts) if (p.insert == i) rest -= p.size;
        return rest;
    }

    private int numberOf(int i) {
        for (Part p : parts) if (p.insert == i) return p.number;
        return -1;
    }

    private int firstPage(int i) {
        for (Part p : parts) if (p.insert == i) return p.page;
        return -1;
    }

    private int latestPage(int i) {
        int page = -1;
        for (Part p : parts) if (p.insert == i) page = p.page;
        return page;
    }

    private int partsOf(int i) {
        return (int) parts.stream().filter(p -> p.insert == i).count();
    }

    private List<Integer> heldOnes() {
        return goneThrough.stream().filter(i -> rest(i) > 0).toList();
    }

    int flush() {
        int n = 0;
        while (!heldOnes().isEmpty() && closed < 40) {
            close();
            n++;
        }
        return n;
    }

    int cancel(int insert) {
        if (insert < 0 || insert >= inserts.size()) return -1;
        if (partsOf(insert) > 0 || takenBack.contains(insert)) return -3;
        takenBack.add(insert);
        return 1;
    }

    int placed(int page, int k, int what) {
        List<Part> there = parts.stream().filter(p -> p.page == page).toList();
        if (k < 0 || k >= there.size()) return -1;
        Part p = there.get(k);
        return switch (what) {
            case 0 -> p.insert;
            case 1 -> p.size;
            case 2 -> p.number;
            case 3 -> p.over ? 1 : 0;
            default -> -1;
        };
    }

    int about(int insert, int what) {
        if (insert < 0 || insert >= inserts.size()) return -1;
        return switch (what) {
            case 0 -> rest(insert);
            case 1 -> firstPage(insert);
            case 2 -> latestPage(insert);
            case 3 -> numberOf(insert);
            case 4 -> partsOf(insert);
            default -> -2;
        };
    }

    int held(int k) {
        List<Integer> held = heldOnes();
        return k < 0 || k >= held.size() ? -1 : held.get(k);
    }

    int used(int page, int cls) {
        if (page < 0 || page > 39 || cls < -1 || cls >= classes.size()) return -1;
        return standing(page, cls);
    }

    int seen(int cls, int page, int which) {
        if (cls < 0 || cls >= classes.size() || page < 0 || page > 39 || which < 0 || which > 2) return 0;
        int top = page == 0 ? 0 : seen(cls, page - 1, 2);
        List<Mark> there = marks.stream().filter(m -> m.cls == cls && m.page == page).toList();
        if (which == 0 || there.isEmpty()) return top;
        return there.get(which == 1 ? 0 : there.size() - 1).v;
    }

    int count(int what) {
        return switch (what) {
            case 0 -> classes.size();
            case 1 -> inserts.size();
            case 2 -> marks.size();
            case 3 -> closed;
            case 4 -> heldOnes().size();
            default -> -2;
        };
    }
}
