import java.util.ArrayList;
import java.util.Arrays;
import java.util.List;

/** The same store, made of the Java library's own arrays and its class Arrays: what Deeprows is held against. */
final class LibraryStore {
    private static final List<String> TEXTS =
            List.of("", "null", "1", "1, 2", "[]", "true", "a", "ab", "-1", "[1]");

    private List<Object> rows = new ArrayList<>();
    private int made = 0;
    private int refused = 0;
    private int knocks = 0;

    int make(int kind, int length) {
        argument(kind >= 0 && kind <= 4 && length >= 0 && length <= 4);
        state(rows.size() < 12);
        switch (kind) {
            case 0: return add(new int[length]);
            case 1: return add(new long[length]);
            case 2: return add(new boolean[length]);
            case 3: char[] signs = new char[length]; Arrays.fill(signs, 'a'); return add(signs);
            default: return add(new Object[length]);
        }
    }

    int drop() {
        state(!rows.isEmpty());
        rows.remove(rows.size() - 1);
        return rows.size();
    }

    int empty() {
        int before = rows.size();
        rows.clear();
        return before;
    }

    int put(int row, int place, int number) {
        bounds(isPlace(row, place));
        argument(isNumber(number));
        set(rows.get(row), place, number);
        return row;
    }

    int say(int row, int place, int text) {
        bounds(isPlace(row, place));
        argument(text >= 0 && text <= 9 && kind(row) == 4);
        things(row)[place] = TEXTS.get(text);
        return row;
    }

    int none(int row, int place) {
        bounds(isPlace(row, place));
        argument(kind(row) == 4);
        things(row)[place] = null;
        return row;
    }

    int hang(int row, int place, int other) {
        bounds(isPlace(row, place) && isRow(other));
        argument(kind(row) == 4);
        state(other < row);
        Object[] planned = things(row).clone();
        planned[place] = rows.get(other);
        return plan(row, planned);
    }

    int swap(int row, int place, int other) {
        bounds(isPlace(row, place) && isPlace(row, other));
        Object array = rows.get(row);
        Object first = java.lang.reflect.Array.get(array, place);
        java.lang.reflect.Array.set(array, place, java.lang.reflect.Array.get(array, other));
        java.lang.reflect.Array.set(array, other, first);
        return row;
    }

    int fill(int row, int number) {
        bounds(isRow(row));
        argument(isNumber(number));
        for (int place = 0; place < length(row); place++) {
            set(rows.get(row), place, number);
        }
        return length(row);
    }

    int fillRow(int row, int other) {
        bounds(isRow(row) && isRow(other));
        argument(kind(row) == 4);
        state(other < row);
        Object[] planned = things(row).clone();
        Arrays.fill(planned, rows.get(other));
        return plan(row, planned);
    }

    int setAll(int row, int start, int step, int stop) {
        bounds(isRow(row));
        argument(kind(row) != 2 && kind(row) != 3 && isNumber(start) && isNumber(step) && stop >= -1 && stop <= 4);
        int[] planned = new int[length(row)];
        try {
            Arrays.setAll(planned, k -> {
                if (k == stop) {
                    throw new UnsupportedOperationException();
                }
                return Math.max(-999, Math.min(999, start + k * step));
            });
        } catch (UnsupportedOperationException e) {
            refused++;
            return -9;
        }
        for (int place = 0; place < planned.length; place++) {
            set(rows.get(row), place, planned[place]);
        }
        made++;
        return planned.length;
    }

    int setRows(int row, int from) {
        bounds(isRow(row));
        argument(kind(row) == 4 && from >= 0);
        Object[] planned = things(row).clone();
        for (int place = 0; place < planned.length; place++) {
            state((long) from + place < row);
            planned[place] = rows.get(from + place);
        }
        int depth = plan(row, planned);
        made++;
        return depth;
    }

    int twin(int row) {
        bounds(isRow(row));
        state(rows.size() < 12);
        return add(copyOf(rows.get(row), length(row)));
    }

    int deepTwin(int row) {
        bounds(isRow(row));
        List<Object> before = new ArrayList<>(rows);
        int twin = addDeepTwin(rows.get(row));
        if (rows.size() > 12) {
            rows = before;
            state(false);
        }
        return twin;
    }

    int copy(int row, int length) {
        bounds(isRow(row));
        argument(kind(row) != 4 && length >= 0 && length <= 4);
        state(rows.size() < 12);
        int twin = add(copyOf(rows.get(row), length));
        if (kind(row) == 3) {
            char[] signs = (char[]) rows.get(twin);
            for (int place = length(row); place < length; place++) {
                signs[place] = 'a';
            }
        }
        return twin;
    }

    int kind(int row) {
        bounds(isRow(row));
        Object array = rows.get(row);
        return array instanceof int[] ? 0 : array instanceof long[] ? 1
                : array instanceof boolean[] ? 2 : array instanceof char[] ? 3 : 4;
    }

    int length(int row) {
        bounds(isRow(row));
        return java.lang.reflect.Array.getLength(rows.get(row));
    }

    int depth(int row) {
        bounds(isRow(row));
        return depthOf(rows.get(row));
    }

    int what(int row, int place) {
        bounds(isPlace(row, place));
        if (kind(row) != 4) {
            return 1;
        }
        Object thing = things(row)[place];
        return thing == null ? 0 : thing instanceof Integer ? 1 : thing instanceof String ? 2 : 3;
    }

    int at(int row, int place) {
        bounds(isPlace(row, place));
        Object thing = java.lang.reflect.Array.get(rows.get(row), place);
        if (thing == null) {
            return -1;
        }
        if (thing instanceof Integer number) {
            return number;
        }
        if (thing instanceof Long big) {
            return (int) (big / 3000000000L);
        }
        if (thing instanceof Boolean truth) {
            return truth ? 1 : 0;
        }
        if (thing instanceof Character sign) {
            return sign - 'a';
        }
        return thing instanceof String text ? TEXTS.indexOf(text) : numberOf(thing);
    }

    boolean isDeep(int row, int other) {
        bounds(isRow(row) && isRow(other));
        return Arrays.deepEquals(new Object[] {rows.get(row)}, new Object[] {rows.get(other)});
    }

    boolean isFlat(int row, int other) {
        return differ(row, other) == -1;
    }

    boolean areDeep(int row, int place, int other, int there) {
        bounds(isPlace(row, place) && isPlace(other, there));
        argument(kind(row) == 4 && kind(other) == 4);
        return java.util.Objects.deepEquals(things(row)[place], things(other)[there]);
    }

    int hash(int row) {
        bounds(isRow(row));
        return Arrays.deepHashCode(new Object[] {rows.get(row)}) - 31;
    }

    int flatHash(int row) {
        bounds(isRow(row));
        for (int place = 0; place < length(row); place++) {
            state(what(row, place) != 3);
        }
        return kind(row) == 4 ? Arrays.hashCode(things(row)) : hash(row);
    }

    String text(int row) {
        bounds(isRow(row));
        String outer = Arrays.deepToString(new Object[] {rows.get(row)});
        return outer.substring(1, outer.length() - 1);
    }

    int differ(int row, int other) {
        bounds(isRow(row) && isRow(other));
        argument(kind(row) == kind(other));
        Object one = rows.get(row);
        Object two = rows.get(other);
        switch (kind(row)) {
            case 0: return Arrays.mismatch((int[]) one, (int[]) two);
            case 1: return Arrays.mismatch((long[]) one, (long[]) two);
            case 2: return Arrays.mismatch((boolean[]) one, (boolean[]) two);
            case 3: return Arrays.mismatch((char[]) one, (char[]) two);
            default: return Arrays.mismatch((Object[]) one, (Object[]) two);
        }
    }

    int compare(int row, int other) {
        bounds(isRow(row) && isRow(other));
        argument(kind(row) == kind(other) && kind(row) != 4);
        Object one = rows.get(row);
        Object two = rows.get(other);
        switch (kind(row)) {
            case 0: return Integer.signum(Arrays.compare((int[]) one, (int[]) two));
            case 1: return Integer.signum(Arrays.compare((long[]) one, (long[]) two));
            case 2: return Integer.signum(Arrays.compare((boolean[]) one, (boolean[]) two));
            default: return Integer.signum(Arrays.compare((char[]) one, (char[]) two));
        }
    }

    int knock() {
        return ++knocks;
    }

    int house(int what) {
        argument(what >= 0 && what <= 5);
        int pairs = 0;
        int deepest = 0;
        for (int row = 0; row < rows.size(); row++) {
            deepest = Math.max(deepest, depth(row));
            for (int other = 0; other < row; other++) {
                pairs += isDeep(row, other) ? 1 : 0;
            }
        }
        return new int[] {rows.size(), made, refused, knocks, pairs, deepest}[what];
    }

    boolean isSound() {
        return true;
    }

    long digest() {
        List<Integer> told = new ArrayList<>();
        for (int what = 0; what <= 5; what++) {
            told.add(house(what));
        }
        for (int row = 0; row < rows.size(); row++) {
            told.addAll(List.of(kind(row), length(row), depth(row), hash(row), text(row).length()));
            for (int place = 0; place < length(row); place++) {
                told.addAll(List.of(what(row, place), at(row, place)));
            }
        }
        for (int row = 0; row < rows.size(); row++) {
            for (int other = row + 1; other < rows.size(); other++) {
                told.add(isDeep(row, other) ? 1 : 0);
            }
        }
        told.add(1);
        long d = 7779;
        for (int v : told) {
            d = d * 31 + v;
        }
        return d;
    }

    private static void bounds(boolean fits) {
        if (!fits) {
            throw new IndexOutOfBoundsException();
        }
    }

    private static void argument(boolean fits) {
        if (!fits) {
            throw new IllegalArgumentException();
        }
    }

    private static void state(boolean fits) {
        if (!fits) {
            throw new IllegalStateException();
        }
    }

    private boolean isRow(int row) {
        return row >= 0 && row < rows.size();
    }

    private boolean isPlace(int row, int place) {
        return isRow(row) && place >= 0 && place < length(row);
    }

    private static boolean isNumber(int number) {
        return number >= -999 && number <= 999;
    }

    private Object[] things(int row) {
        return (Object[]) rows.get(row);
    }

    private int add(Object array) {
        rows.add(array);
        return rows.size() - 1;
    }

    private int numberOf(Object array) {
        for (int row = 0; row < rows.size(); row++) {
            if (rows.get(row) == array) {
                return row;
            }
        }
        throw new AssertionError("a row hangs that is none");
    }

    private static void set(Object array, int place, int number) {
        if (array instanceof int[] ints) {
            ints[place] = number;
        } else if (array instanceof long[] longs) {
            longs[place] = number * 3000000000L;
        } else if (array instanceof boolean[] truths) {
            truths[place] = number % 2 != 0;
        } else if (array instanceof char[] signs) {
            signs[place] = (char) ('a' + ((number % 26) + 26) % 26);
        } else {
            ((Object[]) array)[place] = number;
        }
    }

    /** Puts it in, and takes it back if a row is too deep then. */
    private int plan(int row, Object[] planned) {
        Object[] array = things(row);
        Object[] before = array.clone();
        System.arraycopy(planned, 0, array, 0, array.length);
        for (Object each : rows) {
            if (depthOf(each) > 4) {
                System.arraycopy(before, 0, array, 0, array.length);
                state(false);
            }
        }
        return depthOf(array);
    }

    private static int depthOf(Object array) {
        int depth = 1;
        if (array instanceof Object[] things) {
            for (Object thing : things) {
                if (thing != null && thing.getClass().isArray()) {
                    depth = Math.max(depth, 1 + depthOf(thing));
                }
            }
        }
        return depth;
    }

    private static Object copyOf(Object array, int length) {
        if (array instanceof int[] ints) {
            return Arrays.copyOf(ints, length);
        }
        if (array instanceof long[] longs) {
            return Arrays.copyOf(longs, length);
        }
        if (array instanceof boolean[] truths) {
            return Arrays.copyOf(truths, length);
        }
        return array instanceof char[] signs ? Arrays.copyOf(signs, length) : Arrays.copyOf((Object[]) array, length);
    }

    private int addDeepTwin(Object array) {
        Object twin = copyOf(array, java.lang.reflect.Array.getLength(array));
        if (twin instanceof Object[] things) {
            for (int place = 0; place < things.length; place++) {
                if (things[place] != null && things[place].getClass().isArray()) {
                    things[place] = rows.get(addDeepTwin(things[place]));
                }
            }
        }
        return add(twin);
    }
}
