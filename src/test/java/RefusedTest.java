import java.util.List;
import java.util.function.BiConsumer;

/**
 * Every sentence "Throws ..": just that exception comes, of several the one that is named first, and nothing is
 * changed by it.
 */
public final class RefusedTest {
    private static final Class<IllegalArgumentException> ARGUMENT = IllegalArgumentException.class;
    private static final Class<IllegalStateException> STATE = IllegalStateException.class;
    private static final Class<IndexOutOfBoundsException> BOUNDS = IndexOutOfBoundsException.class;
    private static final int LEAST = Stores.LEAST;
    private static final int GREATEST = Stores.GREATEST;
    private static final int[] NO_NUMBERS = {LEAST, -1000, 1000, GREATEST};
    private static final int[] NEITHER_0_TO_4 = {LEAST, -1, 5, GREATEST};

    /** A call with one number left open. */
    private record Call(String name, BiConsumer<Deeprows, Integer> made) {
    }

    private static final Check check = new Check();

    public static void main(String[] args) {
        noSuchRow();
        noSuchPlace();
        noSuchPlaceTwice();
        noNumber();
        neitherKindNorLength();
        noText();
        noStop();
        nothingToTell();
        fromBelowZero();
        notThings();
        notNumbers();
        unlikeKinds();
        notBothThings();
        noRows();
        twelveRows();
        moreThanTwelveRows();
        notLess();
        notLessInFullStore();
        tooDeepByHang();
        tooDeepByFillRow();
        tooDeepBySetRows();
        aRowHangsInIt();
        check.end();
    }

    private static void refuse(Deeprows x, Call call, int given, Class<? extends RuntimeException> want) {
        check.refused(x, call.name + " with " + given, want, () -> call.made.accept(x, given));
    }

    private static void refuseAll(Deeprows x, List<Call> calls, int[] wrong, Class<? extends RuntimeException> want) {
        for (Call call : calls) {
            for (int given : wrong) {
                refuse(x, call, given, want);
            }
        }
    }

    // ---- promises 5 to 29: there is no such row

    private static void noSuchRow() {
        int[] noRows = {LEAST, -1, 0, GREATEST};
        refuseAll(new Deeprows(), firstRows(), noRows, BOUNDS);
        refuseAll(new Deeprows(), alsoWrong(), noRows, BOUNDS);
        int[] noneOfFive = {LEAST, -1, 5, 12, GREATEST};
        refuseAll(Stores.oneOfEach(), firstRows(), noneOfFive, BOUNDS);
        refuseAll(Stores.oneOfEach(), secondRows(), noneOfFive, BOUNDS);
        refuseAll(Stores.oneOfEach(), alsoWrong(), noneOfFive, BOUNDS);
        int[] noneOfTwelve = {LEAST, -1, 12, GREATEST};
        refuseAll(Stores.full(), firstRows(), noneOfTwelve, BOUNDS);
        refuseAll(Stores.full(), secondRows(), noneOfTwelve, BOUNDS);
        refuseAll(Stores.full(), alsoWrong(), noneOfTwelve, BOUNDS);
        Deeprows emptied = Stores.full();
        emptied.empty();
        refuseAll(emptied, firstRows(), noRows, BOUNDS);
        Deeprows dropped = Stores.full();
        dropped.drop();
        refuseAll(dropped, firstRows(), new int[] {11, 12}, BOUNDS);
    }

    private static List<Call> firstRows() {
        return List.of(
            new Call("put", (x, row) -> x.put(row, 0, 0)),
            new Call("say", (x, row) -> x.say(row, 0, 0)),
            new Call("none", (x, row) -> x.none(row, 0)),
            new Call("hang", (x, row) -> x.hang(row, 0, 0)),
            new Call("swap", (x, row) -> x.swap(row, 0, 0)),
            new Call("fill", (x, row) -> x.fill(row, 0)),
            new Call("fillRow", (x, row) -> x.fillRow(row, 0)),
            new Call("setAll", (x, row) -> x.setAll(row, 0, 0, -1)),
            new Call("setAll that would refuse", (x, row) -> x.setAll(row, 0, 0, 0)),
            new Call("setRows", (x, row) -> x.setRows(row, 0)),
            new Call("twin", (x, row) -> x.twin(row)),
            new Call("deepTwin", (x, row) -> x.deepTwin(row)),
            new Call("copy", (x, row) -> x.copy(row, 0)),
            new Call("kind", (x, row) -> x.kind(row)),
            new Call("length", (x, row) -> x.length(row)),
            new Call("depth", (x, row) -> x.depth(row)),
            new Call("what", (x, row) -> x.what(row, 0)),
            new Call("at", (x, row) -> x.at(row, 0)),
            new Call("isDeep", (x, row) -> x.isDeep(row, 0)),
            new Call("isFlat", (x, row) -> x.isFlat(row, 0)),
            new Call("areDeep", (x, row) -> x.areDeep(row, 0, 4, 0)),
            new Call("hash", (x, row) -> x.hash(row)),
            new Call("flatHash", (x, row) -> x.flatHash(row)),
            new Call("text", (x, row) -> x.text(row)),
            new Call("differ", (x, row) -> x.differ(row, 0)),
            new Call("compare", (x, row) -> x.compare(row, 0)));
    }

    private static List<Call> secondRows() {
        return List.of(
            new Call("hang other", (x, row) -> x.hang(4, 0, row)),
            new Call("fillRow other", (x, row) -> x.fillRow(4, row)),
            new Call("isDeep other", (x, row) -> x.isDeep(0, row)),
            new Call("isFlat other", (x, row) -> x.isFlat(0, row)),
            new Call("areDeep other", (x, row) -> x.areDeep(4, 0, row, 0)),
            new Call("differ other", (x, row) -> x.differ(0, row)),
            new Call("compare other", (x, row) -> x.compare(0, row)));
    }

    /** All that is given besides is wrong, too. */
    private static List<Call> alsoWrong() {
        return List.of(
            new Call("put all wrong", (x, row) -> x.put(row, 4, 1000)),
            new Call("say all wrong", (x, row) -> x.say(row, 4, 10)),
            new Call("none all wrong", (x, row) -> x.none(row, 4)),
            new Call("hang all wrong", (x, row) -> x.hang(row, 4, row)),
            new Call("hang no things, other", (x, row) -> x.hang(0, 0, row)),
            new Call("swap all wrong", (x, row) -> x.swap(row, 4, 4)),
            new Call("fill all wrong", (x, row) -> x.fill(row, 1000)),
            new Call("fillRow all wrong", (x, row) -> x.fillRow(row, row)),
            new Call("fillRow no things, other", (x, row) -> x.fillRow(0, row)),
            new Call("setAll all wrong", (x, row) -> x.setAll(row, 1000, 1000, 5)),
            new Call("setRows all wrong", (x, row) -> x.setRows(row, -1)),
            new Call("copy all wrong", (x, row) -> x.copy(row, 5)),
            new Call("isFlat both wrong", (x, row) -> x.isFlat(row, row)),
            new Call("areDeep all wrong", (x, row) -> x.areDeep(row, 4, row, 4)),
            new Call("areDeep no things, other", (x, row) -> x.areDeep(0, 0, row, 0)),
            new Call("differ both wrong", (x, row) -> x.differ(row, row)),
            new Call("compare both wrong", (x, row) -> x.compare(row, row)),
            new Call("compare things, other", (x, row) -> x.compare(4, row)));
    }

    // ---- promises 5 to 9, 20, 21, 24: there is no such place

    private static void noSuchPlace() {
        for (int kind = 0; kind <= 4; kind++) {
            // The row n is n long; the last one is there to be hung into, and to be asked beside.
            Deeprows x = Stores.rows(kind, 0, 1, 2, 3, 4);
            x.make(4, 4);
            for (int row = 0; row <= 4; row++) {
                refuseAll(x, places(row), new int[] {LEAST, -1, row, 4, GREATEST}, BOUNDS);
            }
        }
    }

    private static List<Call> places(int row) {
        return List.of(
            new Call("put into " + row, (x, place) -> x.put(row, place, 0)),
            new Call("put no number into " + row, (x, place) -> x.put(row, place, 1000)),
            new Call("say into " + row, (x, place) -> x.say(row, place, 0)),
            new Call("say no text into " + row, (x, place) -> x.say(row, place, 10)),
            new Call("none into " + row, (x, place) -> x.none(row, place)),
            new Call("hang into " + row, (x, place) -> x.hang(row, place, 0)),
            new Call("hang itself into " + row, (x, place) -> x.hang(row, place, row)),
            new Call("swap in " + row, (x, place) -> x.swap(row, place, place)),
            new Call("what in " + row, (x, place) -> x.what(row, place)),
            new Call("at in " + row, (x, place) -> x.at(row, place)),
            new Call("areDeep in " + row, (x, place) -> x.areDeep(row, place, 5, 0)),
            new Call("areDeep there in " + row, (x, place) -> x.areDeep(5, 0, row, place)));
    }

    private static void noSuchPlaceTwice() {
        Deeprows x = Stores.oneOfEach();
        List<Call> calls = List.of(
            new Call("swap place", (s, place) -> s.swap(4, place, 0)),
            new Call("swap other", (s, place) -> s.swap(4, 0, place)),
            new Call("areDeep place", (s, place) -> s.areDeep(4, place, 4, 0)),
            new Call("areDeep there", (s, place) -> s.areDeep(4, 0, 4, place)),
            new Call("areDeep place, no things there", (s, place) -> s.areDeep(4, place, 0, 0)),
            new Call("areDeep there, no things here", (s, place) -> s.areDeep(0, 0, 4, place)));
        refuseAll(x, calls, new int[] {LEAST, -1, 3, GREATEST}, BOUNDS);
    }

    // ---- promises 2, 5, 6, 10, 12, 13, 16, 31: a number that is none of those that may be given

    private static void noNumber() {
        Deeprows x = Stores.oneOfEach();
        for (int kind = 0; kind <= 4; kind++) {
            x.make(kind, 0);
        }
        for (int kind = 0; kind <= 4; kind++) {
            int row = kind;
            refuseAll(x, List.of(
                new Call("put into " + row, (s, number) -> s.put(row, 0, number)),
                new Call("put into the last of " + row, (s, number) -> s.put(row, 2, number)),
                new Call("fill " + row, (s, number) -> s.fill(row, number)),
                new Call("fill 0 long", (s, number) -> s.fill(5 + row, number)),
                new Call("setAll start", (s, start) -> s.setAll(row, start, 0, -1)),
                new Call("setAll start that would refuse", (s, start) -> s.setAll(row, start, 0, 0)),
                new Call("setAll step", (s, step) -> s.setAll(row, 0, step, -1)),
                new Call("setAll step that would refuse", (s, step) -> s.setAll(row, 0, step, 0)),
                new Call("setAll both", (s, both) -> s.setAll(row, both, both, -1)),
                new Call("setAll start, 0 long", (s, start) -> s.setAll(5 + row, start, 0, -1)),
                new Call("setAll step, 0 long", (s, step) -> s.setAll(5 + row, 0, step, -1))), NO_NUMBERS, ARGUMENT);
        }
    }

    private static void neitherKindNorLength() {
        List<Call> made = List.of(
            new Call("make kind", (x, kind) -> x.make(kind, 0)),
            new Call("make length", (x, length) -> x.make(4, length)),
            new Call("make both", (x, both) -> x.make(both, both)));
        List<Call> copied = List.of(
            new Call("copy ints", (x, length) -> x.copy(0, length)),
            new Call("copy longs", (x, length) -> x.copy(1, length)),
            new Call("copy truths", (x, length) -> x.copy(2, length)),
            new Call("copy signs", (x, length) -> x.copy(3, length)),
            new Call("copy things", (x, length) -> x.copy(4, length)));
        refuseAll(new Deeprows(), made, NEITHER_0_TO_4, ARGUMENT);
        refuseAll(Stores.oneOfEach(), made, NEITHER_0_TO_4, ARGUMENT);
        refuseAll(Stores.oneOfEach(), copied, NEITHER_0_TO_4, ARGUMENT);
        // There is no room besides, which is named later.
        refuseAll(Stores.full(), made, NEITHER_0_TO_4, ARGUMENT);
        refuseAll(Stores.full(), copied, NEITHER_0_TO_4, ARGUMENT);
    }

    private static void noText() {
        List<Call> calls = List.of(
            new Call("say", (x, text) -> x.say(4, 0, text)),
            new Call("say in the last place", (x, text) -> x.say(4, 2, text)),
            new Call("say into ints", (x, text) -> x.say(0, 0, text)));
        refuseAll(Stores.oneOfEach(), calls, new int[] {LEAST, -1, 10, GREATEST}, ARGUMENT);
    }

    private static void noStop() {
        Deeprows x = Stores.oneOfEach();
        x.make(0, 0);
        x.make(0, 4);
        List<Call> calls = List.of(
            new Call("setAll", (s, stop) -> s.setAll(0, 0, 0, stop)),
            new Call("setAll things", (s, stop) -> s.setAll(4, 0, 0, stop)),
            new Call("setAll 0 long", (s, stop) -> s.setAll(5, 0, 0, stop)),
            new Call("setAll 4 long", (s, stop) -> s.setAll(6, 0, 0, stop)),
            new Call("setAll truths", (s, stop) -> s.setAll(2, 0, 0, stop)));
        refuseAll(x, calls, new int[] {LEAST, -2, 5, GREATEST}, ARGUMENT);
    }

    private static void nothingToTell() {
        List<Call> calls = List.of(new Call("house", (x, what) -> x.house(what)));
        int[] wrong = {LEAST, -1, 6, GREATEST};
        refuseAll(new Deeprows(), calls, wrong, ARGUMENT);
        refuseAll(Stores.full(), calls, wrong, ARGUMENT);
    }

    private static void fromBelowZero() {
        Deeprows x = Stores.oneOfEach();
        x.make(4, 0);
        List<Call> calls = List.of(
            new Call("setRows", (s, from) -> s.setRows(4, from)),
            new Call("setRows 0 long", (s, from) -> s.setRows(5, from)),
            new Call("setRows of ints", (s, from) -> s.setRows(0, from)));
        refuseAll(x, calls, new int[] {LEAST, LEAST + 1, -12, -1}, ARGUMENT);
    }

    // ---- promises 6 to 8, 11 to 13, 16, 23, 24, 28, 29: a kind that may not be given

    private static void notThings() {
        Deeprows x = Stores.oneOfEach();
        for (int kind = 0; kind <= 3; kind++) {
            x.make(kind, 0);
        }
        List<Call> calls = List.of(
            new Call("say", (s, row) -> s.say(row, 0, 0)),
            new Call("say no text", (s, row) -> s.say(row, 0, 10)),
            new Call("none", (s, row) -> s.none(row, 0)),
            new Call("hang", (s, row) -> s.hang(row, 0, 0)),
            new Call("hang itself", (s, row) -> s.hang(row, 0, row)),
            new Call("hang a later one", (s, row) -> s.hang(row, 0, 4)));
        List<Call> whole = List.of(
            new Call("fillRow", (s, row) -> s.fillRow(row, 0)),
            new Call("fillRow with itself", (s, row) -> s.fillRow(row, row)),
            new Call("fillRow with a later one", (s, row) -> s.fillRow(row, 8)),
            new Call("setRows", (s, row) -> s.setRows(row, 0)),
            new Call("setRows of none below", (s, row) -> s.setRows(row, row)),
            new Call("setRows of none at all", (s, row) -> s.setRows(row, GREATEST)));
        refuseAll(x, calls, new int[] {0, 1, 2, 3}, ARGUMENT);
        refuseAll(x, whole, new int[] {0, 1, 2, 3, 5, 6, 7, 8}, ARGUMENT);
    }

    private static void notNumbers() {
        Deeprows x = Stores.oneOfEach();
        for (int kind = 0; kind <= 4; kind++) {
            x.make(kind, 0);
        }
        List<Call> made = List.of(
            new Call("setAll", (s, row) -> s.setAll(row, 0, 0, -1)),
            new Call("setAll that would refuse", (s, row) -> s.setAll(row, 0, 0, 0)));
        refuseAll(x, made, new int[] {2, 3, 7, 8}, ARGUMENT);
        List<Call> copied = List.of(
            new Call("copy as long", (s, row) -> s.copy(row, 3)),
            new Call("copy 0 long", (s, row) -> s.copy(row, 0)));
        refuseAll(x, copied, new int[] {4, 9}, ARGUMENT);
        refuseAll(Stores.full(), copied, new int[] {4, 9}, ARGUMENT);
    }

    private static void unlikeKinds() {
        Deeprows x = Stores.oneOfEach();
        for (int kind = 0; kind <= 4; kind++) {
            x.make(kind, 0);
        }
        for (int row = 0; row < 10; row++) {
            for (int other = 0; other < 10; other++) {
                int one = row;
                int two = other;
                if (row % 5 != other % 5) {
                    check.refused(x, "isFlat " + one + " " + two, ARGUMENT, () -> x.isFlat(one, two));
                    check.refused(x, "differ " + one + " " + two, ARGUMENT, () -> x.differ(one, two));
                    check.refused(x, "compare " + one + " " + two, ARGUMENT, () -> x.compare(one, two));
                } else if (row % 5 == 4) {
                    check.refused(x, "compare " + one + " " + two, ARGUMENT, () -> x.compare(one, two));
                }
            }
        }
    }

    private static void notBothThings() {
        Deeprows x = Stores.oneOfEach();
        for (int row = 0; row <= 4; row++) {
            for (int other = 0; other <= 4; other++) {
                int one = row;
                int two = other;
                if (row != 4 || other != 4) {
                    check.refused(x, "areDeep " + one + " " + two, ARGUMENT, () -> x.areDeep(one, 2, two, 2));
                }
            }
        }
    }

    // ---- promises 2, 3, 14 to 16: too few rows, or too many

    private static void noRows() {
        Deeprows fresh = new Deeprows();
        check.refused(fresh, "drop of a new store", STATE, fresh::drop);
        Deeprows emptied = Stores.full();
        emptied.empty();
        check.refused(emptied, "drop after empty", STATE, emptied::drop);
        Deeprows dropped = Stores.rows(0, 1);
        dropped.drop();
        check.refused(dropped, "drop after the last drop", STATE, dropped::drop);
    }

    private static void twelveRows() {
        Deeprows x = Stores.full();
        for (int kind = 0; kind <= 4; kind++) {
            for (int length = 0; length <= 4; length++) {
                int made = kind;
                int places = length;
                check.refused(x, "make " + made + " " + places, STATE, () -> x.make(made, places));
                if (kind < 4) {
                    check.refused(x, "copy " + made + " " + places, STATE, () -> x.copy(made, places));
                }
            }
        }
        for (int row = 0; row < 12; row++) {
            int given = row;
            check.refused(x, "twin " + row, STATE, () -> x.twin(given));
            check.refused(x, "deepTwin " + row, STATE, () -> x.deepTwin(given));
        }
    }

    private static void moreThanTwelveRows() {
        // The row r needs its own place and one for each that hangs: 5 for the row 1, 21 and 85 for those above.
        Deeprows x = new Deeprows();
        for (int row = 0; row < 4; row++) {
            x.make(4, 4);
        }
        for (int row = 1; row < 4; row++) {
            x.fillRow(row, row - 1);
        }
        check.refused(x, "21 more", STATE, () -> x.deepTwin(2));
        check.refused(x, "85 more", STATE, () -> x.deepTwin(3));
        for (int row = 4; row < 8; row++) {
            x.make(0, 0);
        }
        check.refused(x, "five more than eight", STATE, () -> x.deepTwin(1));
        x.drop();
        check.due("five more than seven", x.deepTwin(1), 11);
        check.refused(x, "one more than twelve", STATE, () -> x.deepTwin(0));
        // A row of the greatest depth in which one hangs at a time needs four.
        Deeprows y = Stores.ladder();
        for (int row = 4; row < 9; row++) {
            y.make(0, 0);
        }
        check.refused(y, "four more than nine", STATE, () -> y.deepTwin(3));
        check.due("three more than nine", y.deepTwin(2), 11);
    }

    // ---- promises 8, 11, 13: a row hangs only in rows with greater numbers

    private static void notLess() {
        Deeprows x = Stores.rows(4, 0, 1, 2, 3, 4);
        for (int row = 1; row <= 4; row++) {
            for (int other = row; other <= 4; other++) {
                int into = row;
                int hung = other;
                check.refused(x, "hang " + other + " into " + row, STATE, () -> x.hang(into, 0, hung));
                check.refused(x, "fillRow " + row + " with " + other, STATE, () -> x.fillRow(into, hung));
            }
            // The row n is n long: from 0 on there are just enough below it.
            for (int from : new int[] {1, 2, row, row + 1, 4, 5, 11, 12, 13, GREATEST - 4, GREATEST - 3,
                GREATEST - 2, GREATEST - 1, GREATEST}) {
                int into = row;
                check.refused(x, "setRows " + row + " from " + from, STATE, () -> x.setRows(into, from));
            }
            check.due("setRows " + row + " from 0", x.setRows(row, 0), 2);
            x.fill(row, 0);
        }
    }

    private static void notLessInFullStore() {
        Deeprows x = new Deeprows();
        for (int row = 0; row < 12; row++) {
            x.make(4, 4);
        }
        check.refused(x, "hang the last into itself", STATE, () -> x.hang(11, 3, 11));
        check.refused(x, "fillRow the last with itself", STATE, () -> x.fillRow(11, 11));
        check.refused(x, "setRows of 8 to 11", STATE, () -> x.setRows(11, 8));
        check.refused(x, "setRows of 9 to 12", STATE, () -> x.setRows(11, 9));
        check.refused(x, "setRows of 12 to 15", STATE, () -> x.setRows(11, 12));
        check.refused(x, "setRows the first", STATE, () -> x.setRows(0, 0));
        check.refused(x, "hang the first into itself", STATE, () -> x.hang(0, 0, 0));
        check.refused(x, "hang the last into the first", STATE, () -> x.hang(0, 0, 11));
        check.refused(x, "fillRow the first with the last", STATE, () -> x.fillRow(0, 11));
    }

    // ---- promises 8, 11, 13: no row may be deeper than 4

    /** Rows of depth 1, 2, 3, 4 (rows 2 to 5), a free row above them, and ints and a row 0 long beneath. */
    private static Deeprows tower() {
        Deeprows x = new Deeprows();
        x.make(0, 2);
        x.make(4, 0);
        for (int row = 2; row < 7; row++) {
            x.make(4, 2);
        }
        for (int row = 3; row < 6; row++) {
            x.hang(row, 1, row - 1);
        }
        return x;
    }

    private static void tooDeepByHang() {
        Deeprows x = tower();
        check.due("the greatest depth", x.depth(5), 4);
        check.refused(x, "the row itself", STATE, () -> x.hang(6, 0, 5));
        check.refused(x, "the row itself, last place", STATE, () -> x.hang(6, 1, 5));
        check.refused(x, "three above", STATE, () -> x.hang(2, 0, 0));
        check.refused(x, "three above, 0 long", STATE, () -> x.hang(2, 1, 1));
        // Beside the deep one a lesser one has room, up to the same depth.
        check.due("beside", x.hang(3, 0, 1), 2);
        check.due("beside", x.hang(4, 0, 3), 3);
        check.due("beside", x.hang(5, 0, 4), 4);
        check.refused(x, "the lowest still not", STATE, () -> x.hang(2, 0, 0));
        x.none(5, 1);
        check.refused(x, "it hangs in the other place, too", STATE, () -> x.hang(2, 0, 0));
        x.put(5, 0, 1);
        check.due("now there is room", x.hang(2, 0, 0), 2);
        check.due("the one above", x.depth(4), 4);
    }

    private static void tooDeepByFillRow() {
        Deeprows x = tower();
        check.refused(x, "the row itself", STATE, () -> x.fillRow(6, 5));
        check.refused(x, "three above", STATE, () -> x.fillRow(2, 0));
        check.refused(x, "three above, 0 long", STATE, () -> x.fillRow(2, 1));
        check.due("up to 4", x.fillRow(6, 4), 4);
        check.due("the middle one, as deep as before", x.fillRow(4, 3), 3);
        x.fillRow(5, 2);
        check.refused(x, "the other one above", STATE, () -> x.fillRow(2, 0));
        x.fill(6, 0);
        check.due("now there is room", x.fillRow(2, 0), 2);
        check.due("the one above", x.depth(4), 4);
    }

    private static void tooDeepBySetRows() {
        Deeprows x = tower();
        check.refused(x, "the last one too deep", STATE, () -> x.setRows(6, 4));
        check.refused(x, "three above", STATE, () -> x.setRows(2, 0));
        check.due("up to 4", x.setRows(6, 3), 4);
        check.due("house(1)", x.house(1), 1);
        check.due("house(2)", x.house(2), 0);
        x.setRows(5, 2);
        check.due("as deep as row 3 and one more", x.depth(5), 3);
        check.refused(x, "the other one above", STATE, () -> x.setRows(2, 0));
        x.fill(6, 0);
        check.due("now there is room", x.setRows(2, 0), 2);
        check.due("the one above", x.depth(4), 4);
        x.none(4, 1);
        x.make(4, 2);
        check.due("the first one's depth counts", x.depth(5), 4);
        check.refused(x, "only the first one too deep", STATE, () -> x.setRows(7, 5));
    }

    // ---- promise 26: a row hangs in it

    private static void aRowHangsInIt() {
        for (int length = 1; length <= 4; length++) {
            Deeprows x = Stores.rows(4, 0, length);
            for (int place = 0; place < length; place++) {
                x.hang(1, place, 0);
                check.refused(x, "flatHash, a row in " + place, STATE, () -> x.flatHash(1));
                x.none(1, place);
            }
            x.fillRow(1, 0);
            check.refused(x, "flatHash, rows in all", STATE, () -> x.flatHash(1));
        }
    }
}
