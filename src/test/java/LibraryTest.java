/** All promises: many runs of calls, each answer held against that of the store made of the Java library. */
public final class LibraryTest {
    private static final int RUNS = 3000;
    private static final int CALLS = 512;
    private static final int[] EDGES = {-1000, -999, -27, -26, -2, -1, 0, 1, 2, 25, 26, 998, 999, 1000,
        Stores.LEAST, Stores.GREATEST};

    private static final Check check = new Check();
    private static final int[] answered = new int[32];
    private static final int[] threw = new int[32];

    private long seed;
    private final Deeprows x = new Deeprows();
    private final LibraryStore y = new LibraryStore();

    private LibraryTest(long seed) {
        this.seed = seed;
    }

    public static void main(String[] args) {
        for (int run = 0; run < RUNS; run++) {
            new LibraryTest(run).run(run);
        }
        for (int which = 0; which < 32; which++) {
            check.due(Calls.NAMES[which] + " answered in some run", answered[which] > 0, true);
            // Only these may throw nothing: empty, knock, isSound, digest.
            boolean never = which == 2 || which == 28 || which >= 30;
            check.due(Calls.NAMES[which] + " threw in some run", threw[which] > 0, !never);
        }
        check.end();
    }

    private void run(int run) {
        // Some runs change rows most of the time, others ask.
        int asking = run % 3 == 0 ? 2 : 8;
        for (int call = 0; call < CALLS; call++) {
            boolean asks = next(10) < asking;
            // A digest after some of the calls, and after the last one.
            boolean last = call == CALLS - 1 || next(40) == 0;
            step(last ? Calls.DIGEST : asks ? 15 + next(16) : change());
        }
    }

    /** Which change; drop, empty and the dear deepTwin come seldom. */
    private int change() {
        int which = next(20);
        if (which == 1 || which == 2) {
            return next(12) == 0 ? which : 0;
        }
        return which < 15 ? which : which % 2 == 0 ? 6 : 0;
    }

    private int next(int bound) {
        seed = seed * 6364136223846793005L + 1442695040888963407L;
        return (int) Long.remainderUnsigned(seed >>> 33, bound);
    }

    private int edge() {
        return EDGES[next(EDGES.length)];
    }

    private int given(char takes) {
        switch (takes) {
            case 'R': return next(30) == 0 ? edge() : next(Math.min(13, y.house(0) + (next(12) == 0 ? 2 : 1)));
            case 'P':
            case 'L': return next(30) == 0 ? edge() : next(next(8) == 0 ? 5 : 3);
            case 'N': return next(20) == 0 ? edge() : next(5) == 0 ? next(1999) - 999 : next(3);
            case 'K': return next(20) == 0 ? edge() : next(2) == 0 ? 4 : next(5);
            case 'T': return next(20) == 0 ? edge() : next(10);
            case 'S': return next(2) == 0 ? -1 : next(20) == 0 ? edge() : next(5);
            case 'F': return next(6) == 0 ? edge() : next(4);
            default: return next(20) == 0 ? edge() : next(6);
        }
    }

    private void step(int which) {
        int[] g = new int[Calls.TAKES[which].length()];
        for (int k = 0; k < g.length; k++) {
            g[k] = given(Calls.TAKES[which].charAt(k));
        }
        Object want = Calls.answer(y, which, g);
        if (want instanceof Class) {
            threw[which]++;
        } else {
            answered[which]++;
        }
        check.due(Calls.NAMES[which], Calls.answer(x, which, g), want);
    }
}
