import java.util.Arrays;

/** Promises 17 to 29: what is asked of rows. */
public final class AskedTest {
    private static final Class<IllegalArgumentException> ARGUMENT = IllegalArgumentException.class;
    private static final Class<IllegalStateException> STATE = IllegalStateException.class;
    private static final Class<IndexOutOfBoundsException> BOUNDS = IndexOutOfBoundsException.class;
    private static final int LEAST = Stores.LEAST;
    private static final int GREATEST = Stores.GREATEST;

    private static final Check check = new Check();

    public static void main(String[] args) {
        kindAndLength();
        depth();
        whatAndAt();
        isDeep();
        isDeepOfThings();
        isFlat();
        areDeep();
        hash();
        flatHash();
        text();
        differ();
        compare();
        check.end();
    }

    private static void kindAndLength() {
        Deeprows x = new Deeprows();
        for (int kind = 0; kind <= 4; kind++) {
            x.make(kind, 4 - kind);
            check.due("kind", x.kind(kind), kind);
            check.due("length", x.length(kind), 4 - kind);
        }
        for (int wrong : new int[] {-1, 5, LEAST, GREATEST}) {
            check.refused(x, "kind", BOUNDS, () -> x.kind(wrong));
            check.refused(x, "length", BOUNDS, () -> x.length(wrong));
        }
    }

    private static void depth() {
        Deeprows x = new Deeprows();
        for (int kind = 0; kind <= 4; kind++) {
            x.make(kind, 1);
            check.due("depth", x.depth(kind), 1);
        }
        x.make(4, 0);
        check.due("depth of one 0 long", x.depth(5), 1);
        x.make(4, 2);
        x.hang(6, 1, 5);
        check.due("depth", x.depth(6), 2);
        x.hang(6, 0, 4);
        check.due("depth", x.depth(6), 2);
        x.hang(4, 0, 0);
        check.due("depth", x.depth(6), 3);
        x.make(4, 4);
        x.hang(7, 3, 6);
        check.due("depth", x.depth(7), 4);
        x.none(6, 0);
        check.due("depth", x.depth(7), 3);
        x.put(6, 1, 0);
        check.due("depth", x.depth(7), 2);
        x.say(7, 3, 0);
        check.due("depth", x.depth(7), 1);
        for (int wrong : new int[] {-1, 8, LEAST, GREATEST}) {
            check.refused(x, "depth", BOUNDS, () -> x.depth(wrong));
        }
    }

    private static void whatAndAt() {
        Deeprows x = new Deeprows();
        for (int kind = 0; kind <= 4; kind++) {
            x.make(kind, 4);
            check.due("what at first", x.what(kind, 3), kind == 4 ? 0 : 1);
            check.due("at at first", x.at(kind, 3), kind == 4 ? -1 : 0);
        }
        int[] told = {-1, -1, 1, 25, -1};
        for (int row = 0; row <= 4; row++) {
            x.put(row, 1, -1);
            check.due("what", x.what(row, 1), 1);
            check.due("at", x.at(row, 1), told[row]);
        }
        x.say(4, 2, 8);
        check.due("what", x.what(4, 2), 2);
        check.due("at", x.at(4, 2), 8);
        x.hang(4, 3, 2);
        check.due("what", x.what(4, 3), 3);
        check.due("at", x.at(4, 3), 2);
        for (int wrong : new int[] {-1, 5, LEAST, GREATEST}) {
            check.refused(x, "what", BOUNDS, () -> x.what(wrong, 0));
            check.refused(x, "at", BOUNDS, () -> x.at(wrong, 0));
        }
        for (int wrong : new int[] {-1, 4, LEAST, GREATEST}) {
            check.refused(x, "what", BOUNDS, () -> x.what(4, wrong));
            check.refused(x, "at", BOUNDS, () -> x.at(0, wrong));
        }
        x.make(0, 0);
        check.refused(x, "what of one 0 long", BOUNDS, () -> x.what(5, 0));
        check.refused(x, "at of one 0 long", BOUNDS, () -> x.at(5, 0));
    }

    private static void isDeep() {
        for (int kind = 0; kind <= 4; kind++) {
            Deeprows x = Stores.rows(kind, 2, 2, 3, 0, 0);
            check.due("alike", x.isDeep(0, 1), true);
            check.due("the same", x.isDeep(0, 0), true);
            check.due("of other length", x.isDeep(0, 2), false);
            check.due("of other length", x.isDeep(2, 0), false);
            check.due("both 0 long", x.isDeep(3, 4), true);
            check.due("one 0 long", x.isDeep(0, 4), false);
            x.put(0, 1, 1);
            check.due("unlike in the last place", x.isDeep(0, 1), false);
            x.put(1, 1, 1);
            check.due("alike again", x.isDeep(1, 0), true);
            x.put(1, 0, 1);
            check.due("unlike in the first place", x.isDeep(0, 1), false);
            x.make((kind + 1) % 5, 0);
            check.due("of other kind", x.isDeep(3, 5), false);
        }
        Deeprows y = new Deeprows();
        for (int kind = 0; kind <= 4; kind++) {
            y.make(kind, 1);
            y.put(kind, 0, 1);
        }
        for (int row = 0; row <= 4; row++) {
            for (int other = 0; other <= 4; other++) {
                check.due("of other kind", y.isDeep(row, other), row == other);
            }
        }
        for (int wrong : new int[] {-1, 5, LEAST, GREATEST}) {
            check.refused(y, "isDeep", BOUNDS, () -> y.isDeep(wrong, 0));
            check.refused(y, "isDeep", BOUNDS, () -> y.isDeep(0, wrong));
        }
    }

    private static void isDeepOfThings() {
        Deeprows x = Stores.rows(4, 1, 1);
        x.put(0, 0, 1);
        x.say(1, 0, 1);
        check.due("a number and a text of the same number", x.isDeep(0, 1), false);
        x.say(1, 0, 2);
        check.due("a number and its text", x.isDeep(0, 1), false);
        x.say(0, 0, 2);
        check.due("two like texts", x.isDeep(0, 1), true);
        x.say(0, 0, 0);
        check.due("two unlike texts", x.isDeep(0, 1), false);
        x.none(1, 0);
        check.due("a text and nothing", x.isDeep(0, 1), false);
        x.put(0, 0, -1);
        check.due("-1 and nothing", x.isDeep(0, 1), false);
        Deeprows y = new Deeprows();
        y.make(0, 1);
        y.make(0, 1);
        y.make(4, 1);
        y.make(4, 1);
        y.hang(2, 0, 0);
        y.hang(3, 0, 1);
        check.due("unlike rows that are alike", y.isDeep(2, 3), true);
        y.put(1, 0, 1);
        check.due("unlike rows", y.isDeep(2, 3), false);
        y.put(3, 0, 0);
        check.due("a row and its number", y.isDeep(2, 3), false);
        y.none(3, 0);
        check.due("a row and nothing", y.isDeep(2, 3), false);
        y.hang(3, 0, 0);
        check.due("the same row", y.isDeep(2, 3), true);
        Deeprows z = new Deeprows();
        z.make(0, 1);
        z.make(1, 1);
        for (int row = 2; row < 8; row++) {
            z.make(4, 1);
            z.hang(row, 0, row - 2);
        }
        check.due("deep beneath ints and longs", z.isDeep(6, 7), false);
        z.hang(3, 0, 0);
        check.due("deep beneath alike", z.isDeep(6, 7), true);
        check.due("of other depth", z.isDeep(5, 7), false);
    }

    private static void isFlat() {
        for (int kind = 0; kind <= 4; kind++) {
            Deeprows x = Stores.rows(kind, 2, 2, 3, 0, 0);
            check.due("alike", x.isFlat(0, 1), true);
            check.due("the same", x.isFlat(0, 0), true);
            check.due("of other length", x.isFlat(0, 2), false);
            check.due("of other length", x.isFlat(2, 0), false);
            check.due("both 0 long", x.isFlat(3, 4), true);
            x.put(0, 1, 1);
            check.due("unlike", x.isFlat(0, 1), false);
            x.put(1, 1, 1);
            check.due("alike again", x.isFlat(1, 0), true);
            x.make((kind + 1) % 5, 0);
            check.refused(x, "of other kind", ARGUMENT, () -> x.isFlat(3, 5));
            check.refused(x, "of other kind", ARGUMENT, () -> x.isFlat(5, 0));
            check.refused(x, "no row", BOUNDS, () -> x.isFlat(6, 0));
            check.refused(x, "no row", BOUNDS, () -> x.isFlat(0, 6));
            check.refused(x, "no row", BOUNDS, () -> x.isFlat(-1, 5));
            check.refused(x, "no row", BOUNDS, () -> x.isFlat(5, LEAST));
        }
        Deeprows y = Stores.rows(4, 1, 1, 2, 2);
        y.hang(2, 0, 0);
        y.hang(3, 0, 1);
        check.due("other rows hang there", y.isFlat(2, 3), false);
        check.due("that are alike", y.isDeep(2, 3), true);
        y.hang(3, 0, 0);
        check.due("the same row hangs there", y.isFlat(2, 3), true);
        y.put(3, 0, 0);
        check.due("a row and its number", y.isFlat(2, 3), false);
        y.say(2, 0, 3);
        y.say(3, 0, 3);
        check.due("two like texts", y.isFlat(2, 3), true);
        y.put(2, 0, 3);
        check.due("a number and a text", y.isFlat(2, 3), false);
        y.put(2, 0, -1);
        y.none(3, 0);
        check.due("-1 and nothing", y.isFlat(2, 3), false);
    }

    private static void areDeep() {
        Deeprows x = new Deeprows();
        x.make(0, 2);
        x.make(0, 2);
        x.make(1, 2);
        x.make(4, 4);
        x.make(4, 4);
        x.hang(3, 0, 0);
        x.put(3, 1, 1);
        x.say(3, 2, 2);
        x.hang(4, 0, 2);
        x.hang(4, 1, 1);
        x.put(4, 2, 1);
        x.say(4, 3, 1);
        boolean[][] due = {{false, true, false, false}, {false, false, true, false},
            {false, false, false, false}, {false, false, false, false}};
        for (int place = 0; place < 4; place++) {
            for (int there = 0; there < 4; there++) {
                check.due("areDeep " + place + " " + there, x.areDeep(3, place, 4, there), due[place][there]);
                check.due("areDeep " + place + " " + there, x.areDeep(4, there, 3, place), due[place][there]);
                check.due("the same row", x.areDeep(4, place, 4, there), place == there);
            }
        }
        x.none(4, 3);
        check.due("nothing and nothing", x.areDeep(3, 3, 4, 3), true);
        x.say(4, 3, 2);
        check.due("text and text", x.areDeep(3, 2, 4, 3), true);
        x.put(1, 0, 5);
        check.due("unlike rows", x.areDeep(3, 0, 4, 1), false);
        check.refused(x, "no row", BOUNDS, () -> x.areDeep(5, 0, 0, 0));
        check.refused(x, "no row", BOUNDS, () -> x.areDeep(-1, 0, 3, 0));
        check.refused(x, "no row", BOUNDS, () -> x.areDeep(0, 0, 5, 0));
        check.refused(x, "no row", BOUNDS, () -> x.areDeep(3, 0, -1, 0));
        check.refused(x, "no place", BOUNDS, () -> x.areDeep(0, 2, 3, 0));
        check.refused(x, "no place", BOUNDS, () -> x.areDeep(3, -1, 3, 0));
        check.refused(x, "no place", BOUNDS, () -> x.areDeep(3, 0, 4, 4));
        check.refused(x, "no place", BOUNDS, () -> x.areDeep(0, 0, 3, -1));
        for (int row = 0; row <= 2; row++) {
            int kind = row;
            check.refused(x, "no things", ARGUMENT, () -> x.areDeep(kind, 0, 3, 0));
            check.refused(x, "no things", ARGUMENT, () -> x.areDeep(3, 0, kind, 0));
            check.refused(x, "no things", ARGUMENT, () -> x.areDeep(kind, 0, kind, 0));
        }
    }

    private static void hash() {
        int[] numbers = {0, 1, -1, 999, -999, 2, 3, 500, -27};
        Deeprows x = new Deeprows();
        for (int kind = 0; kind <= 4; kind++) {
            x.make(kind, 2);
        }
        for (int number : numbers) {
            for (int row = 0; row <= 4; row++) {
                x.put(row, 0, number);
            }
            char sign = (char) ('a' + Math.floorMod(number, 26));
            check.due("ints", x.hash(0), Arrays.hashCode(new int[] {number, 0}));
            check.due("longs", x.hash(1), Arrays.hashCode(new long[] {number * 3000000000L, 0}));
            check.due("truths", x.hash(2), Arrays.hashCode(new boolean[] {number % 2 != 0, false}));
            check.due("signs", x.hash(3), Arrays.hashCode(new char[] {sign, 'a'}));
            check.due("things", x.hash(4), Arrays.hashCode(new Object[] {number, null}));
            int[] ints = {number, 0};
            x.hang(4, 1, 0);
            Object[] things = {number, ints};
            check.due("a row in it", x.hash(4), Arrays.deepHashCode(things));
            x.none(4, 1);
        }
        x.say(4, 0, 3);
        x.say(4, 1, 9);
        check.due("texts", x.hash(4), Arrays.hashCode(new Object[] {"1, 2", "[1]"}));
        x.make(4, 1);
        x.hang(5, 0, 4);
        check.due("beneath", x.hash(5), 31 + x.hash(4));
        x.make(4, 4);
        x.fillRow(6, 5);
        check.due("wraps around", x.hash(6),
                Arrays.hashCode(new Integer[] {x.hash(5), x.hash(5), x.hash(5), x.hash(5)}));
        for (int kind = 0; kind <= 4; kind++) {
            x.make(kind, 0);
            check.due("0 long", x.hash(7 + kind), 1);
        }
        for (int wrong : new int[] {-1, 12, LEAST, GREATEST}) {
            check.refused(x, "hash", BOUNDS, () -> x.hash(wrong));
        }
    }

    private static void flatHash() {
        Deeprows x = new Deeprows();
        for (int kind = 0; kind <= 4; kind++) {
            x.make(kind, 3);
            x.put(kind, 1, -7);
            x.put(kind, 2, 12);
            check.due("flatHash", x.flatHash(kind), x.hash(kind));
        }
        x.say(4, 0, 7);
        check.due("flatHash", x.flatHash(4), Arrays.hashCode(new Object[] {"ab", -7, 12}));
        x.none(4, 1);
        check.due("flatHash", x.flatHash(4), Arrays.hashCode(new Object[] {"ab", null, 12}));
        for (int place = 0; place < 3; place++) {
            x.hang(4, place, 0);
            check.refused(x, "a row hangs in it", STATE, () -> x.flatHash(4));
            x.put(4, place, 1);
        }
        check.due("flatHash", x.flatHash(4), Arrays.hashCode(new Object[] {1, 1, 1}));
        x.make(4, 0);
        check.due("0 long", x.flatHash(5), 1);
        for (int wrong : new int[] {-1, 6, LEAST, GREATEST}) {
            check.refused(x, "flatHash", BOUNDS, () -> x.flatHash(wrong));
        }
    }

    private static void text() {
        int[] numbers = {0, 1, -1, 9, 10, -10, 99, 100, 101, 110, 999, -999, -100, 334, -333};
        Deeprows x = new Deeprows();
        for (int kind = 0; kind <= 4; kind++) {
            x.make(kind, 2);
        }
        for (int number : numbers) {
            for (int row = 0; row <= 4; row++) {
                x.put(row, 0, number);
            }
            check.due("ints", x.text(0), "[" + number + ", 0]");
            check.due("longs", x.text(1), "[" + number * 3000000000L + ", 0]");
            check.due("truths", x.text(2), "[" + (number % 2 != 0) + ", false]");
            check.due("signs", x.text(3), "[" + (char) ('a' + Math.floorMod(number, 26)) + ", a]");
            check.due("things", x.text(4), "[" + number + ", null]");
        }
        x.say(4, 0, 0);
        x.say(4, 1, 1);
        check.due("an empty text", x.text(4), "[, null]");
        x.make(4, 3);
        x.hang(5, 0, 4);
        x.say(5, 1, 9);
        x.hang(5, 2, 2);
        check.due("a row in it", x.text(5), "[[, null], [1], [true, false]]");
        for (int kind = 0; kind <= 4; kind++) {
            x.make(kind, 0);
            check.due("0 long", x.text(6 + kind), "[]");
        }
        x.make(4, 1);
        x.hang(11, 0, 10);
        check.due("one 0 long in it", x.text(11), "[[]]");
        for (int wrong : new int[] {-1, 12, LEAST, GREATEST}) {
            check.refused(x, "text", BOUNDS, () -> x.text(wrong));
        }
    }

    private static void differ() {
        for (int kind = 0; kind <= 4; kind++) {
            Deeprows x = Stores.rows(kind, 3, 3, 4, 0, 0);
            check.due("alike", x.differ(0, 1), -1);
            check.due("the same", x.differ(2, 2), -1);
            check.due("longer", x.differ(0, 2), 3);
            check.due("shorter", x.differ(2, 0), 3);
            check.due("one 0 long", x.differ(3, 1), 0);
            check.due("both 0 long", x.differ(3, 4), -1);
            for (int place = 2; place >= 0; place--) {
                x.put(0, place, 1);
                check.due("unlike", x.differ(0, 1), place);
                check.due("unlike", x.differ(1, 0), place);
                check.due("unlike and longer", x.differ(0, 2), place);
            }
            x.make((kind + 1) % 5, 3);
            check.refused(x, "of other kind", ARGUMENT, () -> x.differ(0, 5));
            check.refused(x, "of other kind", ARGUMENT, () -> x.differ(5, 0));
            check.refused(x, "no row", BOUNDS, () -> x.differ(6, 0));
            check.refused(x, "no row", BOUNDS, () -> x.differ(5, -1));
        }
        Deeprows y = Stores.rows(4, 1, 1, 2, 2);
        y.hang(2, 1, 0);
        y.hang(3, 1, 1);
        check.due("unlike rows that are alike", y.differ(2, 3), 1);
        y.hang(3, 1, 0);
        check.due("the same row", y.differ(2, 3), -1);
        y.put(3, 0, -1);
        check.due("nothing and -1", y.differ(2, 3), 0);
    }

    private static void compare() {
        for (int kind = 0; kind <= 3; kind++) {
            Deeprows x = Stores.rows(kind, 3, 3, 4, 0, 0);
            check.due("alike", x.compare(0, 1), 0);
            check.due("the same", x.compare(0, 0), 0);
            check.due("shorter", x.compare(0, 2), -1);
            check.due("longer", x.compare(2, 0), 1);
            check.due("one 0 long", x.compare(3, 0), -1);
            check.due("both 0 long", x.compare(3, 4), 0);
            x.put(0, 2, 1);
            check.due("greater in the last place", x.compare(0, 1), 1);
            check.due("less in the last place", x.compare(1, 0), -1);
            check.due("shorter, but greater", x.compare(0, 2), 1);
            check.due("longer, but less", x.compare(2, 0), -1);
            x.put(1, 1, 1);
            check.due("the first unlike place counts", x.compare(0, 1), -1);
            check.due("the first unlike place counts", x.compare(1, 0), 1);
            x.make((kind + 1) % 5, 3);
            check.refused(x, "of other kind", ARGUMENT, () -> x.compare(0, 5));
            check.refused(x, "of other kind", ARGUMENT, () -> x.compare(5, 0));
            check.refused(x, "no row", BOUNDS, () -> x.compare(6, 5));
            check.refused(x, "no row", BOUNDS, () -> x.compare(5, 6));
            check.refused(x, "no row", BOUNDS, () -> x.compare(LEAST, 0));
            check.refused(x, "no row", BOUNDS, () -> x.compare(0, GREATEST));
        }
        for (int kind = 0; kind <= 1; kind++) {
            Deeprows x = Stores.rows(kind, 1, 1);
            x.put(0, 0, -999);
            check.due("below 0", x.compare(0, 1), -1);
            x.put(1, 0, 999);
            check.due("the greatest", x.compare(1, 0), 1);
        }
        Deeprows y = Stores.rows(4, 1, 1);
        check.refused(y, "things", ARGUMENT, () -> y.compare(0, 1));
        check.refused(y, "the same things", ARGUMENT, () -> y.compare(0, 0));
        check.refused(y, "no row", BOUNDS, () -> y.compare(0, 2));
    }
}
