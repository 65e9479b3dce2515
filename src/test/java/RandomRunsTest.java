import java.util.Random;

/** Runs of 512 calls, the same ones on the class and on the plain model: their answers agree. */
public final class RandomRunsTest {
    private static final int RUNS = 6000;
    private static final int CALLS = 512;
    private static final int[] EDGES = {
        Integer.MIN_VALUE, -2, -1, 0, 1, 7, 8, 9, 39, 40, 41, 199, 200, 10000, 10001, 30001, Integer.MAX_VALUE};

    private final Random random;
    private final int pageRoom;
    private final int greatest;
    private final int tellingShare;
    private final int closingShare;
    private final InsertMarks x;
    private final PlainModel model;

    private RandomRunsTest(long seed) {
        random = new Random(seed);
        pageRoom = random.nextInt(8) == 0 ? edge() : 1 + random.nextInt(random.nextBoolean() ? 30 : 300);
        greatest = 1 + random.nextInt(random.nextBoolean() ? 30 : 500);
        tellingShare = 20 + random.nextInt(70);
        closingShare = 1 + random.nextInt(12);
        x = new InsertMarks(pageRoom);
        model = new PlainModel(pageRoom);
    }

    public static void main(String[] args) {
        for (int run = 0; run < RUNS; run++) {
            new RandomRunsTest(run).run(run);
        }
        Check.end();
    }

    private void run(int run) {
        for (int i = 0; i < CALLS; i++) {
            String where = "run " + run + ", call " + i + ": ";
            int dice = random.nextInt(100);
            if (dice < closingShare) {
                closeOrFlush(where);
            } else if (dice < tellingShare) {
                tell(where);
            } else {
                ask(where);
            }
        }
    }

    private int edge() {
        return EDGES[random.nextInt(EDGES.length)];
    }

    /** Mostly a number below the bound, now and then one of the edges. */
    private int some(int bound) {
        return random.nextInt(25) == 0 ? edge() : random.nextInt(Math.max(1, bound));
    }

    private int somePage() {
        return random.nextInt(3) == 0 ? some(40) : model.count(3) - 1 + some(4);
    }

    private void closeOrFlush(String where) {
        if (random.nextInt(6) == 0) {
            Check.due(where + "flush()", x.flush(), model.flush());
        } else {
            Check.due(where + "close()", x.close(), model.close());
        }
    }

    private void tell(String where) {
        int kind = random.nextInt(20);
        if (kind < 2) {
            int room = random.nextInt(3) == 0 ? -1 : some(greatest * 2);
            int least = random.nextInt(3) == 0 ? 0 : some(greatest / 3);
            boolean anew = random.nextBoolean();
            Check.due(where + "cls(" + room + ", " + least + ", " + anew + ")",
                x.cls(room, least, anew), model.cls(room, least, anew));
        } else if (kind < 13) {
            int cls = some(model.count(0));
            int height = 1 + some(greatest);
            int page = somePage();
            Check.due(where + "insert(" + cls + ", " + height + ", " + page + ")",
                x.insert(cls, height, page), model.insert(cls, height, page));
        } else if (kind < 17) {
            int cls = some(model.count(0));
            int v = some(100) - 50;
            int page = somePage();
            Check.due(where + "mark(" + cls + ", " + v + ", " + page + ")",
                x.mark(cls, v, page), model.mark(cls, v, page));
        } else {
            int held = model.held(random.nextInt(4));
            int insert = random.nextBoolean() && held != -1 ? held : some(model.count(1));
            Check.due(where + "cancel(" + insert + ")", x.cancel(insert), model.cancel(insert));
        }
    }

    private void ask(String where) {
        int cls = random.nextInt(5) == 0 ? -1 : some(model.count(0));
        int page = random.nextInt(4) == 0 ? some(40) : some(model.count(3) + 1);
        int what = some(5);
        switch (random.nextInt(6)) {
            case 0 -> {
                int k = some(6);
                Check.due(where + "placed(" + page + ", " + k + ", " + what + ")",
                    x.placed(page, k, what), model.placed(page, k, what));
            }
            case 1 -> {
                int insert = some(model.count(1));
                Check.due(where + "about(" + insert + ", " + what + ")",
                    x.about(insert, what), model.about(insert, what));
            }
            case 2 -> {
                int k = some(model.count(4) + 1);
                Check.due(where + "held(" + k + ")", x.held(k), model.held(k));
            }
            case 3 -> Check.due(where + "used(" + page + ", " + cls + ")", x.used(page, cls), model.used(page, cls));
            case 4 -> {
                int which = some(3);
                Check.due(where + "seen(" + cls + ", " + page + ", " + which + ")",
                    x.seen(cls, page, which), model.seen(cls, page, which));
            }
            default -> Check.due(where + "count(" + what + ")", x.count(what), model.count(what));
        }
    }
}
