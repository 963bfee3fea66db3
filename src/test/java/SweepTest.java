import java.util.Arrays;

/**
 * All promises: in each of some stores every call with every choice of numbers at the ends of what is allowed, held
 * against the store made of the Java library; what is refused changes nothing.
 */
public final class SweepTest {
    private static final int LEAST = Stores.LEAST;
    private static final int GREATEST = Stores.GREATEST;
    private static final int[] ROWS = {LEAST, -1, 0, 1, 2, 3, 4, 5, 6, 7, 8, 9, 10, 11, 12, GREATEST};
    private static final int[] PLACES = {LEAST, -1, 0, 1, 2, 3, 4, GREATEST};
    private static final int[] NUMBERS = {LEAST, -1000, -999, -27, -1, 0, 1, 26, 998, 999, 1000, GREATEST};
    private static final int[] SMALL = {LEAST, -2, -1, 0, 1, 2, 3, 4, 5, GREATEST};
    private static final int[] TEXTS = {LEAST, -1, 0, 1, 9, 10, GREATEST};
    private static final int[] FROMS = {LEAST, -1, 0, 1, 2, 3, 4, 7, 8, 9, 10, 11, 12, GREATEST - 3, GREATEST - 2,
        GREATEST - 1, GREATEST};
    private static final int[] WHATS = {LEAST, -1, 0, 1, 2, 3, 4, 5, 6, GREATEST};

    /** How each store is made: call and numbers, call and numbers, .. */
    private static final String[] SCRIPTS = {
        "",
        // One of each kind, three long.
        "make 0 3, make 1 3, make 2 3, make 3 3, make 4 3, hang 4 0 0, say 4 1 9, fill 0 -999",
        // Things 0 to 4 long, each holding one before.
        "make 4 0, make 4 1, hang 1 0 0, make 4 2, hang 2 1 1, make 4 3, hang 3 1 2, make 4 4, say 4 3 4, make 4 1",
        // Full, nothing hangs.
        "make 0 2, make 1 2, make 2 2, make 3 2, make 4 2, make 0 0, make 1 0, make 2 0, make 3 0, make 4 0, make 0 4,"
            + " make 4 4",
        // Full of things, in which all hang up to depth 4.
        "make 4 2, make 4 2, hang 1 0 0, make 4 2, hang 2 1 1, make 4 2, hang 3 0 2, make 4 4, fillRow 4 2, make 4 1,"
            + " make 4 3, setRows 6 0, make 4 4, make 4 0, make 4 2, hang 9 0 8, make 4 2, make 4 4, fill 11 -1",
        // Seven, of which the last three take one, three and five rows to twin deeply.
        "make 2 1, put 0 0 1, make 3 1, put 1 0 -1, make 1 4, setAll 2 -999 666 -1, make 4 1, hang 3 0 2, make 4 0,"
            + " make 4 2, fillRow 5 2, make 4 4, setRows 6 0, knock",
        // Eleven, with what tells the same though it is unlike.
        "make 4 1, make 4 1, say 1 0 1, make 4 1, put 2 0 1, make 4 1, say 3 0 2, make 0 0, make 4 1, hang 5 0 4,"
            + " make 4 1, say 6 0 4, make 0 1, make 1 1, make 2 1, make 3 1",
    };

    private static final Check check = new Check();

    private final String script;
    private Deeprows x;
    private LibraryStore y;
    private long before;

    private SweepTest(String script) {
        this.script = script;
        makeAnew();
    }

    public static void main(String[] args) {
        for (String script : SCRIPTS) {
            SweepTest sweep = new SweepTest(script);
            for (int which = 0; which < Calls.NAMES.length; which++) {
                sweep.all(which, new int[Calls.TAKES[which].length()], 0);
            }
        }
        check.end();
    }

    private void makeAnew() {
        x = new Deeprows();
        y = new LibraryStore();
        for (String line : script.isEmpty() ? new String[0] : script.split(", *")) {
            String[] words = line.split(" ");
            int which = Calls.numberOf(words[0]);
            int[] g = new int[words.length - 1];
            for (int k = 0; k < g.length; k++) {
                g[k] = Integer.parseInt(words[1 + k]);
            }
            Object want = Calls.answer(y, which, g);
            check.due(line + " is allowed", want instanceof Class, false);
            check.due(line, Calls.answer(x, which, g), want);
        }
        before = x.digest();
        check.due("digest", before, y.digest());
    }

    private static int[] given(char takes) {
        switch (takes) {
            case 'R': return ROWS;
            case 'P': return PLACES;
            case 'N': return NUMBERS;
            case 'T': return TEXTS;
            case 'F': return FROMS;
            case 'W': return WHATS;
            default: return SMALL;
        }
    }

    private void all(int which, int[] g, int chosen) {
        if (chosen == g.length) {
            one(which, g);
            return;
        }
        for (int each : given(Calls.TAKES[which].charAt(chosen))) {
            g[chosen] = each;
            all(which, g, chosen + 1);
        }
    }

    private void one(int which, int[] g) {
        Object want = Calls.answer(y, which, g);
        String call = Calls.NAMES[which] + Arrays.toString(g);
        check.due(call, Calls.answer(x, which, g), want);
        boolean changes = Calls.changes(which) && !(want instanceof Class);
        check.due("digest after " + call, x.digest(), changes ? y.digest() : before);
        if (changes) {
            makeAnew();
        }
    }
}
