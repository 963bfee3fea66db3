import java.util.function.Supplier;

/** All promises: many runs of calls, each answer held against that of the store made of the Java library. */
public final class LibraryTest {
    private static final int RUNS = 3000;
    private static final int CALLS = 512;
    private static final int[] EDGES = {-1000, -999, -27, -26, -2, -1, 0, 1, 2, 25, 26, 998, 999, 1000,
        Integer.MIN_VALUE, Integer.MAX_VALUE};

    private static final Check check = new Check();
    private static final int[] answered = new int[33];
    private static final int[] threw = new int[33];

    private long seed;
    private final Deeprows x = new Deeprows();
    private final LibraryStore y = new LibraryStore();

    private LibraryTest(long seed) {
        this.seed = seed;
    }

    public static void main(String[] args) {
        for (int run = 0; run < RUNS; run++) {
            new LibraryTest(run).run(run);
        }
        for (int call = 0; call < 32; call++) {
            check.due("call " + call + " answered in some run", answered[call] > 0, true);
        }
        check.end();
    }

    private void run(int run) {
        // Some runs change rows most of the time, others ask.
        int asking = run % 3 == 0 ? 2 : 8;
        for (int call = 0; call < CALLS; call++) {
            boolean asks = next(10) < asking;
            int which = asks ? 15 + next(16) : change();
            step(which);
            if (call == CALLS - 1 || next(40) == 0) {
                step(31);
            }
        }
    }

    /** Which change; drop, empty and the dear deepTwin come seldom. */
    private int change() {
        int which = next(20);
        if (which == 1 || which == 2) {
            return next(12) == 0 ? which : 0;
        }
        return which < 15 ? which : which % 2 == 0 ? 6 : 0;
    }

    private int next(int bound) {
        seed = seed * 6364136223846793005L + 1442695040888963407L;
        return (int) Long.remainderUnsigned(seed >>> 33, bound);
    }

    private int row() {
        return next(30) == 0 ? EDGES[next(EDGES.length)] : next(Math.min(13, y.house(0) + (next(12) == 0 ? 2 : 1)));
    }

    private int place() {
        return next(30) == 0 ? EDGES[next(EDGES.length)] : next(next(8) == 0 ? 5 : 3);
    }

    private int number() {
        return next(20) == 0 ? EDGES[next(EDGES.length)] : next(5) == 0 ? next(1999) - 999 : next(3);
    }

    private void step(int which) {
        int a = row();
        int b = place();
        int c = row();
        int d = place();
        int n = number();
        int m = number();
        switch (which) {
            case 0: int k = next(20) == 0 ? n : next(2) == 0 ? 4 : next(5);
                    same(0, () -> x.make(k, b), () -> y.make(k, b)); break;
            case 1: same(1, x::drop, y::drop); break;
            case 2: same(2, x::empty, y::empty); break;
            case 3: same(3, () -> x.put(a, b, n), () -> y.put(a, b, n)); break;
            case 4: int t = next(20) == 0 ? n : next(10);
                    same(4, () -> x.say(a, b, t), () -> y.say(a, b, t)); break;
            case 5: same(5, () -> x.none(a, b), () -> y.none(a, b)); break;
            case 6: same(6, () -> x.hang(a, b, c), () -> y.hang(a, b, c)); break;
            case 7: same(7, () -> x.swap(a, b, d), () -> y.swap(a, b, d)); break;
            case 8: same(8, () -> x.fill(a, n), () -> y.fill(a, n)); break;
            case 9: same(9, () -> x.fillRow(a, c), () -> y.fillRow(a, c)); break;
            case 10: int stop = next(2) == 0 ? -1 : next(20) == 0 ? n : next(5);
                    same(10, () -> x.setAll(a, n, m, stop), () -> y.setAll(a, n, m, stop)); break;
            case 11: int from = next(3) == 0 ? n : next(4);
                    same(11, () -> x.setRows(a, from), () -> y.setRows(a, from)); break;
            case 12: same(12, () -> x.twin(a), () -> y.twin(a)); break;
            case 13: same(13, () -> x.deepTwin(a), () -> y.deepTwin(a)); break;
            case 14: same(14, () -> x.copy(a, d), () -> y.copy(a, d)); break;
            default: ask(which, a, b, c, d, n);
        }
    }

    private void ask(int which, int a, int b, int c, int d, int n) {
        switch (which) {
            case 15: same(15, () -> x.kind(a), () -> y.kind(a)); break;
            case 16: same(16, () -> x.length(a), () -> y.length(a)); break;
            case 17: same(17, () -> x.depth(a), () -> y.depth(a)); break;
            case 18: same(18, () -> x.what(a, b), () -> y.what(a, b)); break;
            case 19: same(19, () -> x.at(a, b), () -> y.at(a, b)); break;
            case 20: same(20, () -> x.isDeep(a, c), () -> y.isDeep(a, c)); break;
            case 21: same(21, () -> x.isFlat(a, c), () -> y.isFlat(a, c)); break;
            case 22: same(22, () -> x.areDeep(a, b, c, d), () -> y.areDeep(a, b, c, d)); break;
            case 23: same(23, () -> x.hash(a), () -> y.hash(a)); break;
            case 24: same(24, () -> x.flatHash(a), () -> y.flatHash(a)); break;
            case 25: same(25, () -> x.text(a), () -> y.text(a)); break;
            case 26: same(26, () -> x.differ(a, c), () -> y.differ(a, c)); break;
            case 27: same(27, () -> x.compare(a, c), () -> y.compare(a, c)); break;
            case 28: same(28, x::knock, y::knock); break;
            case 29: int what = next(20) == 0 ? n : next(6);
                    same(29, () -> x.house(what), () -> y.house(what)); break;
            case 30: same(30, x::isSound, y::isSound); break;
            default: same(31, x::digest, y::digest);
        }
    }

    private void same(int which, Supplier<Object> one, Supplier<Object> two) {
        Object want = answerOf(two);
        Object got = answerOf(one);
        if (want instanceof Class) {
            threw[which]++;
        } else {
            answered[which]++;
        }
        check.due("call " + which, got, want);
    }

    private static Object answerOf(Supplier<Object> call) {
        try {
            return call.get();
        } catch (RuntimeException e) {
            return Check.ownClassOf(e);
        }
    }
}
