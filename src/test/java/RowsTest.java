/** Promises 1 to 16: making and changing rows. */
public final class RowsTest {
    private static final Class<IllegalArgumentException> ARGUMENT = IllegalArgumentException.class;
    private static final Class<IllegalStateException> STATE = IllegalStateException.class;
    private static final Class<IndexOutOfBoundsException> BOUNDS = IndexOutOfBoundsException.class;
    private static final int LEAST = Stores.LEAST;
    private static final int GREATEST = Stores.GREATEST;

    private static final Check check = new Check();

    public static void main(String[] args) {
        newObject();
        make();
        drop();
        empty();
        put();
        say();
        none();
        hang();
        hangDepth();
        swap();
        fill();
        fillRow();
        setAll();
        setRows();
        twin();
        deepTwin();
        copy();
        check.end();
    }

    private static void newObject() {
        Deeprows x = new Deeprows();
        for (int what = 0; what <= 5; what++) {
            check.due("house(" + what + ")", x.house(what), 0);
        }
        check.due("isSound()", x.isSound(), true);
        check.due("digest()", x.digest(), 7779L * 31 * 31 * 31 * 31 * 31 * 31 * 31 + 1);
        check.refused(x, "kind(0)", BOUNDS, () -> x.kind(0));
    }

    private static void make() {
        Deeprows x = new Deeprows();
        String[] atFirst = {"[0, 0]", "[0, 0]", "[false, false]", "[a, a]", "[null, null]"};
        for (int kind = 0; kind <= 4; kind++) {
            check.due("make", x.make(kind, 2), kind);
            check.due("kind", x.kind(kind), kind);
            check.due("length", x.length(kind), 2);
            check.due("text", x.text(kind), atFirst[kind]);
        }
        check.due("make(0, 0)", x.make(0, 0), 5);
        check.due("text", x.text(5), "[]");
        check.due("make(4, 4)", x.make(4, 4), 6);
        check.due("length", x.length(6), 4);
        for (int wrong : new int[] {-1, 5, LEAST, GREATEST}) {
            check.refused(x, "make(" + wrong + ", 0)", ARGUMENT, () -> x.make(wrong, 0));
            check.refused(x, "make(0, " + wrong + ")", ARGUMENT, () -> x.make(0, wrong));
        }
        for (int row = 7; row < 12; row++) {
            check.due("make(0, 1)", x.make(0, 1), row);
        }
        check.refused(x, "make a 13th", STATE, () -> x.make(0, 1));
        check.refused(x, "make a 13th of no kind", ARGUMENT, () -> x.make(5, 1));
        check.refused(x, "make a 13th too long", ARGUMENT, () -> x.make(0, 5));
    }

    private static void drop() {
        Deeprows x = new Deeprows();
        check.refused(x, "drop() of none", STATE, () -> x.drop());
        x.make(0, 1);
        x.make(4, 1);
        x.hang(1, 0, 0);
        check.due("drop()", x.drop(), 1);
        check.refused(x, "kind(1) after drop()", BOUNDS, () -> x.kind(1));
        check.due("make after drop()", x.make(4, 1), 1);
        check.due("its text", x.text(1), "[null]");
        check.due("drop()", x.drop(), 1);
        check.due("drop()", x.drop(), 0);
        check.refused(x, "drop() of none", STATE, () -> x.drop());
    }

    private static void empty() {
        Deeprows x = new Deeprows();
        check.due("empty() of none", x.empty(), 0);
        x.make(0, 1);
        x.make(4, 1);
        x.hang(1, 0, 0);
        x.setAll(0, 1, 1, -1);
        x.setAll(0, 1, 1, 0);
        x.knock();
        check.due("empty()", x.empty(), 2);
        check.due("house(0)", x.house(0), 0);
        check.due("house(1) stays", x.house(1), 1);
        check.due("house(2) stays", x.house(2), 1);
        check.due("house(3) stays", x.house(3), 1);
        check.refused(x, "text(0)", BOUNDS, () -> x.text(0));
        check.due("make", x.make(4, 1), 0);
        check.due("text", x.text(0), "[null]");
    }

    private static void put() {
        Deeprows x = Stores.oneOfEach();
        int[] numbers = {0, 1, -1, 2, -2, 25, 26, -26, -27, 27, 999, -999, 998, -998};
        for (int number : numbers) {
            for (int row = 0; row <= 4; row++) {
                check.due("put", x.put(row, 1, number), row);
                int want = row == 2 ? Math.abs(number % 2) : row == 3 ? ((number % 26) + 26) % 26 : number;
                check.due("at after put " + number + " into " + row, x.at(row, 1), want);
                check.due("what after put", x.what(row, 1), 1);
            }
        }
        check.due("other places stay", x.at(0, 0), 0);
        check.due("other places stay", x.at(0, 2), 0);
        x.put(4, 0, 5);
        check.due("what hung goes", x.depth(4), 1);
        check.due("what hung goes", x.at(4, 0), 5);
        for (int wrong : new int[] {-1, 5, LEAST, GREATEST}) {
            check.refused(x, "put no row", BOUNDS, () -> x.put(wrong, 0, 0));
            check.refused(x, "put no row, no number", BOUNDS, () -> x.put(wrong, 0, 1000));
        }
        for (int wrong : new int[] {-1, 3, LEAST, GREATEST}) {
            check.refused(x, "put no place", BOUNDS, () -> x.put(0, wrong, 0));
            check.refused(x, "put no place, no number", BOUNDS, () -> x.put(0, wrong, 1000));
        }
        for (int wrong : new int[] {-1000, 1000, LEAST, GREATEST}) {
            for (int row = 0; row <= 4; row++) {
                int kind = row;
                check.refused(x, "put no number", ARGUMENT, () -> x.put(kind, 0, wrong));
            }
        }
    }

    private static void say() {
        String[] texts = {"", "null", "1", "1, 2", "[]", "true", "a", "ab", "-1", "[1]"};
        Deeprows x = Stores.oneOfEach();
        for (int text = 0; text < texts.length; text++) {
            check.due("say", x.say(4, 0, text), 4);
            check.due("what", x.what(4, 0), 2);
            check.due("at", x.at(4, 0), text);
            check.due("text", x.text(4), "[" + texts[text] + ", null, null]");
            check.due("hash", x.hash(4), ((31 + texts[text].hashCode()) * 31) * 31);
        }
        check.due("what hung goes", x.depth(4), 1);
        check.refused(x, "say no row", BOUNDS, () -> x.say(5, 0, 10));
        check.refused(x, "say no row", BOUNDS, () -> x.say(-1, 0, 0));
        check.refused(x, "say no place", BOUNDS, () -> x.say(0, 3, 10));
        check.refused(x, "say no place", BOUNDS, () -> x.say(4, -1, 0));
        for (int wrong : new int[] {-1, 10, LEAST, GREATEST}) {
            check.refused(x, "say no text", ARGUMENT, () -> x.say(4, 0, wrong));
        }
        for (int row = 0; row <= 3; row++) {
            int kind = row;
            check.refused(x, "say into numbers", ARGUMENT, () -> x.say(kind, 0, 0));
        }
    }

    private static void none() {
        Deeprows x = Stores.oneOfEach();
        x.say(4, 1, 3);
        x.put(4, 2, 7);
        for (int place = 0; place < 3; place++) {
            check.due("none", x.none(4, place), 4);
            check.due("what", x.what(4, place), 0);
            check.due("at", x.at(4, place), -1);
        }
        check.due("what hung goes", x.depth(4), 1);
        check.due("text", x.text(4), "[null, null, null]");
        check.refused(x, "none no row", BOUNDS, () -> x.none(5, 0));
        check.refused(x, "none no row", BOUNDS, () -> x.none(-1, 0));
        check.refused(x, "none no place", BOUNDS, () -> x.none(4, 3));
        check.refused(x, "none no place, no things", BOUNDS, () -> x.none(0, -1));
        for (int row = 0; row <= 3; row++) {
            int kind = row;
            check.refused(x, "none into numbers", ARGUMENT, () -> x.none(kind, 0));
        }
    }

    private static void hang() {
        Deeprows x = Stores.oneOfEach();
        for (int other = 0; other <= 3; other++) {
            check.due("hang", x.hang(4, 1, other), 2);
            check.due("what", x.what(4, 1), 3);
            check.due("at", x.at(4, 1), other);
        }
        check.due("the same row in two places", x.hang(4, 2, 3), 2);
        check.due("text", x.text(4), "[[0, 0, 0], [a, a, a], [a, a, a]]");
        x.put(3, 0, 2);
        check.due("what is put there is seen", x.text(4), "[[0, 0, 0], [c, a, a], [c, a, a]]");
        check.refused(x, "hang into no row", BOUNDS, () -> x.hang(5, 0, 0));
        check.refused(x, "hang into no row", BOUNDS, () -> x.hang(-1, 0, 0));
        check.refused(x, "hang into no place", BOUNDS, () -> x.hang(4, 3, 4));
        check.refused(x, "hang into no place", BOUNDS, () -> x.hang(4, -1, 0));
        check.refused(x, "hang no row", BOUNDS, () -> x.hang(4, 0, 5));
        check.refused(x, "hang no row", BOUNDS, () -> x.hang(0, 0, -1));
        check.refused(x, "hang no row", BOUNDS, () -> x.hang(4, 0, GREATEST));
        for (int row = 0; row <= 3; row++) {
            int kind = row;
            check.refused(x, "hang into numbers", ARGUMENT, () -> x.hang(kind, 0, 0));
            check.refused(x, "hang into numbers, not less", ARGUMENT, () -> x.hang(kind, 0, 4));
        }
        check.refused(x, "hang into itself", STATE, () -> x.hang(4, 0, 4));
        x.make(4, 1);
        check.refused(x, "hang a later one", STATE, () -> x.hang(4, 0, 5));
    }

    private static void hangDepth() {
        Deeprows x = Stores.ladder();
        check.due("depth", x.depth(3), 4);
        x.make(4, 2);
        check.refused(x, "hang too deep", STATE, () -> x.hang(4, 0, 3));
        check.due("hang the third", x.hang(4, 0, 2), 4);
        check.due("hang a lesser one beside", x.hang(4, 1, 0), 4);
        check.due("hang in place of the third", x.hang(4, 0, 0), 2);
        Deeprows y = new Deeprows();
        for (int row = 0; row < 6; row++) {
            y.make(4, 2);
        }
        y.hang(3, 1, 2);
        y.hang(4, 0, 3);
        y.hang(5, 0, 4);
        check.due("depth", y.depth(5), 4);
        check.refused(y, "a greater row would be too deep", STATE, () -> y.hang(2, 0, 0));
        check.due("beside the deepest there is room", y.hang(3, 0, 1), 2);
        check.refused(y, "also beside", STATE, () -> y.hang(1, 1, 0));
        y.none(3, 0);
        check.due("there is room without it", y.hang(1, 1, 0), 2);
        check.due("house(5)", y.house(5), 4);
    }

    private static void swap() {
        Deeprows x = Stores.oneOfEach();
        x.setAll(0, 1, 1, -1);
        check.due("swap", x.swap(0, 0, 2), 0);
        check.due("text", x.text(0), "[3, 2, 1]");
        check.due("swap the same", x.swap(0, 1, 1), 0);
        check.due("text", x.text(0), "[3, 2, 1]");
        x.say(4, 1, 7);
        check.due("swap", x.swap(4, 0, 1), 4);
        check.due("text", x.text(4), "[ab, [3, 2, 1], null]");
        check.due("what", x.what(4, 1), 3);
        check.due("at", x.at(4, 1), 0);
        check.due("swap", x.swap(4, 2, 1), 4);
        check.due("text", x.text(4), "[ab, null, [3, 2, 1]]");
        check.due("at", x.at(4, 1), -1);
        x.put(2, 0, 1);
        x.swap(2, 0, 1);
        check.due("text", x.text(2), "[false, true, false]");
        x.put(3, 2, 25);
        x.swap(3, 2, 0);
        check.due("text", x.text(3), "[z, a, a]");
        x.put(1, 0, -1);
        x.swap(1, 0, 1);
        check.due("text", x.text(1), "[0, -3000000000, 0]");
        check.refused(x, "swap no row", BOUNDS, () -> x.swap(5, 0, 0));
        check.refused(x, "swap no row", BOUNDS, () -> x.swap(-1, 0, 0));
        for (int wrong : new int[] {-1, 3, LEAST, GREATEST}) {
            check.refused(x, "swap no place", BOUNDS, () -> x.swap(0, wrong, 0));
            check.refused(x, "swap no place", BOUNDS, () -> x.swap(0, 0, wrong));
        }
    }

    private static void fill() {
        Deeprows x = Stores.oneOfEach();
        String[] texts = {"[-27, -27, -27]", "[-81000000000, -81000000000, -81000000000]",
            "[true, true, true]", "[z, z, z]", "[-27, -27, -27]"};
        for (int row = 4; row >= 0; row--) {
            check.due("fill", x.fill(row, -27), 3);
            check.due("text", x.text(row), texts[row]);
        }
        check.due("what hung goes", x.depth(4), 1);
        check.due("what", x.what(4, 0), 1);
        x.make(0, 0);
        check.due("fill of one 0 long", x.fill(5, 999), 0);
        check.due("fill", x.fill(0, -999), 3);
        check.due("at", x.at(0, 2), -999);
        check.refused(x, "fill no row", BOUNDS, () -> x.fill(6, 1000));
        check.refused(x, "fill no row", BOUNDS, () -> x.fill(-1, 0));
        for (int wrong : new int[] {-1000, 1000, LEAST, GREATEST}) {
            check.refused(x, "fill no number", ARGUMENT, () -> x.fill(0, wrong));
            check.refused(x, "fill no number, 0 long", ARGUMENT, () -> x.fill(5, wrong));
        }
    }

    private static void fillRow() {
        Deeprows x = Stores.oneOfEach();
        check.due("fillRow", x.fillRow(4, 1), 2);
        check.due("text", x.text(4), "[[0, 0, 0], [0, 0, 0], [0, 0, 0]]");
        for (int place = 0; place < 3; place++) {
            check.due("what", x.what(4, place), 3);
            check.due("at", x.at(4, place), 1);
        }
        check.due("make", x.make(4, 0), 5);
        check.due("fillRow of one 0 long", x.fillRow(5, 4), 1);
        check.refused(x, "0 long, not less", STATE, () -> x.fillRow(5, 5));
        check.refused(x, "fillRow no row", BOUNDS, () -> x.fillRow(6, 0));
        check.refused(x, "fillRow no row", BOUNDS, () -> x.fillRow(-1, 0));
        check.refused(x, "fillRow with no row", BOUNDS, () -> x.fillRow(4, 6));
        check.refused(x, "fillRow with no row", BOUNDS, () -> x.fillRow(0, -1));
        for (int row = 0; row <= 3; row++) {
            int kind = row;
            check.refused(x, "fillRow of numbers", ARGUMENT, () -> x.fillRow(kind, kind));
        }
        check.refused(x, "fillRow with itself", STATE, () -> x.fillRow(4, 4));
        check.refused(x, "fillRow with a later one", STATE, () -> x.fillRow(4, 5));
        Deeprows y = Stores.ladder();
        y.make(4, 2);
        check.refused(y, "fillRow too deep", STATE, () -> y.fillRow(4, 3));
        check.due("fillRow", y.fillRow(4, 2), 4);
        check.due("depth", y.depth(4), 4);
        check.due("fillRow with a lesser one", y.fillRow(4, 0), 2);
        check.due("make", y.make(4, 0), 5);
        check.due("0 long stays of depth 1", y.fillRow(5, 3), 1);
        Deeprows z = new Deeprows();
        for (int row = 0; row < 5; row++) {
            z.make(4, 2);
        }
        z.hang(2, 0, 1);
        z.hang(3, 0, 2);
        z.hang(4, 0, 3);
        check.refused(z, "a greater row would be too deep", STATE, () -> z.fillRow(1, 0));
        z.none(4, 0);
        check.due("fillRow", z.fillRow(1, 0), 2);
        check.due("depth", z.depth(3), 4);
    }

    private static void setAll() {
        Deeprows x = Stores.oneOfEach();
        check.due("setAll", x.setAll(0, -3, 2, -1), 3);
        check.due("text", x.text(0), "[-3, -1, 1]");
        check.due("setAll", x.setAll(1, 998, 1, 3), 3);
        check.due("text", x.text(1), "[2994000000000, 2997000000000, 2997000000000]");
        check.due("setAll", x.setAll(4, -998, -999, 4), 3);
        check.due("text", x.text(4), "[-998, -999, -999]");
        check.due("what hung goes", x.what(4, 0), 1);
        check.due("setAll", x.setAll(0, -999, 999, -1), 3);
        check.due("text", x.text(0), "[-999, 0, 999]");
        check.due("house(1)", x.house(1), 4);
        x.hang(4, 0, 0);
        for (int stop = 0; stop <= 2; stop++) {
            check.due("setAll", x.setAll(4, 1, 1, stop), -9);
            check.due("text", x.text(4), "[[-999, 0, 999], -999, -999]");
        }
        check.due("house(1)", x.house(1), 4);
        check.due("house(2)", x.house(2), 3);
        x.make(0, 0);
        for (int stop = -1; stop <= 4; stop++) {
            check.due("setAll of one 0 long", x.setAll(5, 1, 1, stop), 0);
        }
        check.due("house(1)", x.house(1), 10);
        check.due("house(2)", x.house(2), 3);
        check.refused(x, "setAll no row", BOUNDS, () -> x.setAll(6, 1000, 0, 0));
        check.refused(x, "setAll no row", BOUNDS, () -> x.setAll(-1, 0, 0, 0));
        check.refused(x, "setAll of truths", ARGUMENT, () -> x.setAll(2, 0, 0, -1));
        check.refused(x, "setAll of signs", ARGUMENT, () -> x.setAll(3, 0, 0, 0));
        for (int wrong : new int[] {-1000, 1000, LEAST, GREATEST}) {
            check.refused(x, "setAll no start", ARGUMENT, () -> x.setAll(0, wrong, 0, 0));
            check.refused(x, "setAll no step", ARGUMENT, () -> x.setAll(0, 0, wrong, 0));
        }
        for (int wrong : new int[] {-2, 5, LEAST, GREATEST}) {
            check.refused(x, "setAll no stop", ARGUMENT, () -> x.setAll(0, 0, 0, wrong));
        }
    }

    private static void setRows() {
        Deeprows x = Stores.oneOfEach();
        check.due("setRows", x.setRows(4, 0), 2);
        check.due("text", x.text(4), "[[0, 0, 0], [0, 0, 0], [false, false, false]]");
        for (int place = 0; place < 3; place++) {
            check.due("at", x.at(4, place), place);
        }
        check.due("setRows", x.setRows(4, 1), 2);
        for (int place = 0; place < 3; place++) {
            check.due("at", x.at(4, place), 1 + place);
        }
        check.due("house(1)", x.house(1), 2);
        for (int from : new int[] {2, 3, 4, 5, 12, GREATEST, GREATEST - 1, GREATEST - 2, GREATEST - 3}) {
            check.refused(x, "setRows from " + from, STATE, () -> x.setRows(4, from));
        }
        check.refused(x, "setRows from -1", ARGUMENT, () -> x.setRows(4, -1));
        check.refused(x, "setRows from the least", ARGUMENT, () -> x.setRows(4, LEAST));
        for (int row = 0; row <= 3; row++) {
            int kind = row;
            check.refused(x, "setRows of numbers", ARGUMENT, () -> x.setRows(kind, 9));
        }
        check.refused(x, "setRows no row", BOUNDS, () -> x.setRows(5, -1));
        check.refused(x, "setRows no row", BOUNDS, () -> x.setRows(-1, 0));
        check.due("make", x.make(4, 0), 5);
        check.due("of a row 0 long none", x.setRows(5, 0), 1);
        check.due("of a row 0 long none", x.setRows(5, 5), 1);
        check.due("of a row 0 long none", x.setRows(5, GREATEST), 1);
        check.due("house(1)", x.house(1), 5);
        check.refused(x, "setRows from -1, 0 long", ARGUMENT, () -> x.setRows(5, -1));
        Deeprows y = Stores.ladder();
        y.make(4, 2);
        check.refused(y, "setRows too deep", STATE, () -> y.setRows(4, 2));
        check.due("setRows", y.setRows(4, 1), 4);
        check.due("depth", y.depth(4), 4);
        check.due("house(2)", y.house(2), 0);
        check.due("house(1)", y.house(1), 1);
        Deeprows z = Stores.ladder();
        z.none(2, 0);
        check.due("depth", z.depth(3), 2);
        z.make(4, 1);
        z.hang(4, 0, 3);
        check.refused(z, "a greater row would be too deep", STATE, () -> z.setRows(2, 0));
        z.none(4, 0);
        check.due("setRows", z.setRows(2, 0), 3);
        check.due("depth", z.depth(3), 4);
        Deeprows u = Stores.ladder();
        u.make(4, 1);
        u.make(4, 2);
        check.refused(u, "only the first one is too deep", STATE, () -> u.setRows(5, 3));
        u.none(3, 0);
        u.hang(3, 1, 1);
        check.due("only the first one is deep", u.setRows(5, 3), 4);
    }

    private static void twin() {
        Deeprows x = Stores.oneOfEach();
        for (int row = 0; row <= 4; row++) {
            x.put(row, 1, 27);
        }
        for (int row = 0; row <= 4; row++) {
            check.due("twin", x.twin(row), 5 + row);
            check.due("kind", x.kind(5 + row), row);
            check.due("length", x.length(5 + row), 3);
            check.due("isFlat", x.isFlat(row, 5 + row), true);
        }
        check.due("the same row hangs there", x.at(9, 0), 0);
        check.due("depth", x.depth(9), 2);
        x.put(5, 0, 8);
        check.due("the first one stays", x.at(0, 0), 0);
        x.none(9, 0);
        check.due("the first one stays", x.what(4, 0), 3);
        check.refused(x, "twin no row", BOUNDS, () -> x.twin(10));
        check.refused(x, "twin no row", BOUNDS, () -> x.twin(-1));
        Deeprows y = Stores.full();
        check.refused(y, "twin with 12", STATE, () -> y.twin(0));
        check.refused(y, "twin no row with 12", BOUNDS, () -> y.twin(12));
    }

    private static void deepTwin() {
        Deeprows x = new Deeprows();
        x.make(0, 1);
        x.make(1, 1);
        x.make(4, 3);
        x.hang(2, 0, 1);
        x.say(2, 1, 7);
        x.hang(2, 2, 0);
        x.make(4, 2);
        x.hang(3, 0, 2);
        x.hang(3, 1, 1);
        check.due("deepTwin", x.deepTwin(3), 8);
        check.due("its first one's first one", x.kind(4), 1);
        check.due("its first one's last one", x.kind(5), 0);
        check.due("its first one", x.at(8, 0), 6);
        check.due("its second one", x.at(8, 1), 7);
        check.due("beneath", x.at(6, 0), 4);
        check.due("beneath", x.at(6, 1), 7);
        check.due("beneath", x.at(6, 2), 5);
        check.due("isDeep", x.isDeep(3, 8), true);
        check.due("isFlat", x.isFlat(3, 8), false);
        check.due("depth", x.depth(8), 3);
        x.put(4, 0, 5);
        check.due("the first one stays", x.at(1, 0), 0);
        check.due("house(0)", x.house(0), 9);
        check.refused(x, "four more", STATE, () -> x.deepTwin(2 + 6));
        check.due("three more", x.deepTwin(6), 11);
        check.refused(x, "one more", STATE, () -> x.deepTwin(0));
        check.refused(x, "no row", BOUNDS, () -> x.deepTwin(12));
        check.refused(x, "no row", BOUNDS, () -> x.deepTwin(-1));
        Deeprows y = new Deeprows();
        y.make(2, 2);
        y.put(0, 1, 1);
        y.make(4, 3);
        y.fillRow(1, 0);
        check.due("one for each place", y.deepTwin(1), 5);
        for (int place = 0; place < 3; place++) {
            check.due("at", y.at(5, place), 2 + place);
        }
        check.due("a row of no things", y.deepTwin(0), 6);
        check.due("text", y.text(6), "[false, true]");
        Deeprows z = Stores.ladder();
        check.due("of depth 4", z.deepTwin(3), 7);
        check.due("text", z.text(7), "[[[[null, null], null], null], null]");
        check.due("at", z.at(5, 0), 4);
    }

    private static void copy() {
        Deeprows x = Stores.oneOfEach();
        String[] shorter = {"[7, 8]", "[21000000000, 24000000000]", "[true, false]", "[h, i]"};
        String[] longer = {"[7, 8, 9, 0]", "[21000000000, 24000000000, 27000000000, 0]",
            "[true, false, true, false]", "[h, i, j, a]"};
        for (int row = 0; row <= 3; row++) {
            for (int place = 0; place < 3; place++) {
                x.put(row, place, 7 + place);
            }
            int made = x.copy(row, 4);
            check.due("copy", made, 5);
            check.due("kind", x.kind(made), row);
            check.due("text", x.text(made), longer[row]);
            check.due("copy", x.copy(row, 2), 6);
            check.due("text", x.text(6), shorter[row]);
            check.due("copy", x.copy(row, 3), 7);
            check.due("isFlat", x.isFlat(row, 7), true);
            check.due("copy", x.copy(row, 0), 8);
            check.due("text", x.text(8), "[]");
            x.put(5, 0, 2);
            check.due("the first one stays", x.at(row, 1), row == 2 ? 0 : 8);
            check.due("the first one stays", x.at(row, 0), row == 2 ? 1 : 7);
            for (int gone = 0; gone < 4; gone++) {
                x.drop();
            }
        }
        check.refused(x, "copy no row", BOUNDS, () -> x.copy(5, 5));
        check.refused(x, "copy no row", BOUNDS, () -> x.copy(-1, 0));
        check.refused(x, "copy of things", ARGUMENT, () -> x.copy(4, 3));
        for (int wrong : new int[] {-1, 5, LEAST, GREATEST}) {
            check.refused(x, "copy no length", ARGUMENT, () -> x.copy(0, wrong));
        }
        Deeprows y = Stores.full();
        check.refused(y, "copy with 12", STATE, () -> y.copy(0, 1));
        check.refused(y, "copy of things with 12", ARGUMENT, () -> y.copy(4, 1));
        check.refused(y, "copy no length with 12", ARGUMENT, () -> y.copy(0, 5));
        check.refused(y, "copy no row with 12", BOUNDS, () -> y.copy(12, 1));
    }
}
