import java.util.Random;

/**
 * No call throws, for any arguments in any state, even behind the 512th call, where the answers
 * themselves are free: so only that the calls come back is looked at.
 */
public final class NeverThrowsTest {
    private static final int RUNS = 100;
    private static final int CALLS = 10000;
    private static final int[] EDGES = {
        Integer.MIN_VALUE, Integer.MIN_VALUE + 1, -40, -2, -1, 0, 1, 2, 3, 4, 7, 8, 39, 40, 199, 200,
        299, 300, 9999, 10000, 10001, 30000, 30001, Integer.MAX_VALUE - 1, Integer.MAX_VALUE};

    private final Random random;
    private final InsertMarks x;
    private final int closingShare;

    private NeverThrowsTest(long seed) {
        random = new Random(seed);
        closingShare = random.nextInt(10);
        x = new InsertMarks(any());
    }

    public static void main(String[] args) {
        for (int run = 0; run < RUNS; run++) {
            NeverThrowsTest test = new NeverThrowsTest(run);
            for (int call = 0; call < CALLS; call++) {
                test.callOne(run, call);
            }
        }
        Check.end();
    }

    /** Wild ones, but enough that are taken, so that every limit of the document is reached too. */
    private int any() {
        return switch (random.nextInt(10)) {
            case 0 -> EDGES[random.nextInt(EDGES.length)];
            case 1 -> random.nextInt();
            case 2, 3 -> random.nextInt(250) - 10;
            case 4 -> random.nextInt(60) - 10;
            default -> random.nextInt(8);
        };
    }

    private void callOne(int run, int call) {
        int which = random.nextInt(1000) < closingShare ? 10 + random.nextInt(2) : random.nextInt(10);
        int a = any();
        int b = any();
        int c = any();
        try {
            answer(which, a, b, c);
        } catch (RuntimeException | Error thrown) {
            String where = "run " + run + ", call " + call + ", method " + which + " (" + a + ", " + b + ", " + c + ")";
            System.out.println(where + " threw " + thrown);
            Check.due(where, 1, 0);
        }
    }

    private int answer(int which, int a, int b, int c) {
        return switch (which) {
            case 0 -> x.cls(a, b, c > 3);
            case 1 -> x.insert(a, b, c);
            case 2 -> x.mark(a, b, c);
            case 3 -> x.cancel(a);
            case 4 -> x.placed(a, b, c);
            case 5 -> x.about(a, b);
            case 6 -> x.held(a);
            case 7 -> x.used(a, b);
            case 8 -> x.seen(a, b, c);
            case 9 -> x.count(a);
            case 10 -> x.flush();
            default -> x.close();
        };
    }
}
