import java.util.ArrayList;

/** Rows of numbers, of truths, of signs and of things, hung into each other, and what is asked of them. */
public final class Deeprows {
    private static final int NONE = -1;
    private static final int REFUSED = -9;

    private static final int MOST_ROWS = 12;
    private static final int MOST_PLACES = 4;
    private static final int MOST_DEPTH = 4;
    // isSound() hangs a row of the greatest depth into one more.
    private static final int MOST_LEVELS = MOST_DEPTH + 1;
    private static final int GREATEST_NUMBER = 999;
    private static final int LAST_TEXT = 9;
    private static final int LETTERS = 26;

    private static final int LONGS = 1;
    private static final int TRUTHS = 2;
    private static final int SIGNS = 3;
    private static final int THINGS = 4;

    private static final int NOTHING = 0;
    private static final int NUMBER = 1;
    private static final int TEXT = 2;
    private static final int ROW = 3;

    private static final long LONG_UNIT = 3000000000L;
    // A long is LONG_DIGITS times its number, with LONG_ZEROS behind.
    private static final int LONG_DIGITS = 3;
    private static final String LONG_ZEROS = "000000000";

    private static final int HASH_STEP = 31;
    private static final int HASH_OF_TRUE = 1231;
    private static final int HASH_OF_FALSE = 1237;
    private static final long DIGEST_START = 7779;

    private final ArrayList<Row> rows;
    private int makerMade;
    private int makerRefused;
    private int knocks;
    // Made once and used again, so that isSound() and digest() make no objects.
    private final Row shell;
    private final Row otherShell;
    private final StringBuilder words;
    private final StringBuilder otherWords;

    /** A row: what stands in a place is told by whats, and which one by values or hung. */
    private static final class Row {
        private final int kind;
        private final int length;
        private final int[] whats;
        private final int[] values;
        private final Row[] hung;
        private int number;

        Row(int kind, int length) {
            this.kind = kind;
            this.length = length;
            whats = new int[length];
            values = new int[length];
            hung = new Row[length];
            for (int place = 0; place < length; place++) {
                whats[place] = kind == THINGS ? NOTHING : NUMBER;
                values[place] = kind == THINGS ? NONE : 0;
            }
        }

        private void change(int place, int what, int value, Row part) {
            whats[place] = what;
            values[place] = value;
            hung[place] = part;
        }

        void putNumber(int place, int given) {
            change(place, NUMBER, fitting(kind, given), null);
        }

        void putText(int place, int text) {
            change(place, TEXT, text, null);
        }

        void putNothing(int place) {
            change(place, NOTHING, NONE, null);
        }

        void putRow(int place, Row part) {
            change(place, ROW, NONE, part);
        }

        void putSame(int place, Row from, int there) {
            change(place, from.whats[there], from.values[there], from.hung[there]);
        }
    }

    /** Creates a store without rows. */
    public Deeprows() {
        rows = new ArrayList<>();
        makerMade = 0;
        makerRefused = 0;
        knocks = 0;
        shell = new Row(THINGS, 1);
        otherShell = new Row(THINGS, 1);
        words = new StringBuilder();
        otherWords = new StringBuilder();
    }

    // ---- rows

    public int make(int kind, int length) throws IllegalArgumentException, IllegalStateException {
        if (kind < 0 || kind > THINGS) {
            throw new IllegalArgumentException("no such kind");
        }
        requireLength(length);
        requireRoom(1);
        return addRow(new Row(kind, length)).number;
    }

    public int drop() throws IllegalStateException {
        if (rows.isEmpty()) {
            throw new IllegalStateException("there is no row");
        }
        rows.remove(rows.size() - 1);
        return rows.size();
    }

    public int empty() {
        int before = rows.size();
        rows.clear();
        return before;
    }

    public int put(int row, int place, int number) throws IndexOutOfBoundsException, IllegalArgumentException {
        Row target = rowOf(row);
        requirePlace(target, place);
        requireNumber(number);
        target.putNumber(place, number);
        return row;
    }

    public int say(int row, int place, int text) throws IndexOutOfBoundsException, IllegalArgumentException {
        Row target = rowOf(row);
        requirePlace(target, place);
        if (text < 0 || text > LAST_TEXT) {
            throw new IllegalArgumentException("no such text");
        }
        requireThings(target);
        target.putText(place, text);
        return row;
    }

    public int none(int row, int place) throws IndexOutOfBoundsException, IllegalArgumentException {
        Row target = rowOf(row);
        requirePlace(target, place);
        requireThings(target);
        target.putNothing(place);
        return row;
    }

    public int hang(int row, int place, int other)
            throws IndexOutOfBoundsException, IllegalArgumentException, IllegalStateException {
        Row target = rowOf(row);
        requirePlace(target, place);
        Row part = rowOf(other);
        requireThings(target);
        requireLess(other, row);
        int depth = 1 + Math.max(depthBeside(target, place), depthOf(part));
        requireDepths(target, depth);
        target.putRow(place, part);
        return depth;
    }

    public int swap(int row, int place, int other) throws IndexOutOfBoundsException {
        Row target = rowOf(row);
        requirePlace(target, place);
        requirePlace(target, other);
        int what = target.whats[place];
        int value = target.values[place];
        Row part = target.hung[place];
        target.putSame(place, target, other);
        target.change(other, what, value, part);
        return row;
    }

    public int fill(int row, int number) throws IndexOutOfBoundsException, IllegalArgumentException {
        Row target = rowOf(row);
        requireNumber(number);
        for (int place = 0; place < target.length; place++) {
            target.putNumber(place, number);
        }
        return target.length;
    }

    public int fillRow(int row, int other)
            throws IndexOutOfBoundsException, IllegalArgumentException, IllegalStateException {
        Row target = rowOf(row);
        Row part = rowOf(other);
        requireThings(target);
        requireLess(other, row);
        int depth = target.length == 0 ? 1 : 1 + depthOf(part);
        requireDepths(target, depth);
        for (int place = 0; place < target.length; place++) {
            target.putRow(place, part);
        }
        return depth;
    }

    public int setAll(int row, int start, int step, int stop)
            throws IndexOutOfBoundsException, IllegalArgumentException {
        Row target = rowOf(row);
        if (target.kind == TRUTHS || target.kind == SIGNS) {
            throw new IllegalArgumentException("no maker makes truths or signs");
        }
        requireNumber(start);
        requireNumber(step);
        if (stop < NONE || stop > MOST_PLACES) {
            throw new IllegalArgumentException("no such stop");
        }
        if (stop >= 0 && stop < target.length) {
            makerRefused++;
            return REFUSED;
        }
        for (int place = 0; place < target.length; place++) {
            target.putNumber(place, bounded(start + place * step));
        }
        makerMade++;
        return target.length;
    }

    public int setRows(int row, int from)
            throws IndexOutOfBoundsException, IllegalArgumentException, IllegalStateException {
        Row target = rowOf(row);
        requireThings(target);
        if (from < 0) {
            throw new IllegalArgumentException("from is below 0");
        }
        if (target.length > 0) {
            // The last one is looked at without adding to from, which may be the greatest int.
            requireLess(from, row - (target.length - 1));
        }
        int depth = 1;
        for (int place = 0; place < target.length; place++) {
            depth = Math.max(depth, 1 + depthOf(rowOf(from + place)));
        }
        requireDepths(target, depth);
        for (int place = 0; place < target.length; place++) {
            target.putRow(place, rowOf(from + place));
        }
        makerMade++;
        return depth;
    }

    public int twin(int row) throws IndexOutOfBoundsException, IllegalStateException {
        Row given = rowOf(row);
        requireRoom(1);
        return addRow(copied(given, given.length)).number;
    }

    public int deepTwin(int row) throws IndexOutOfBoundsException, IllegalStateException {
        Row given = rowOf(row);
        requireRoom(rowsInDeepTwin(given, MOST_DEPTH));
        return addDeepTwin(this, given, MOST_DEPTH).number;
    }

    public int copy(int row, int length)
            throws IndexOutOfBoundsException, IllegalArgumentException, IllegalStateException {
        Row given = rowOf(row);
        if (given.kind == THINGS) {
            throw new IllegalArgumentException("a row of things is not copied");
        }
        requireLength(length);
        requireRoom(1);
        return addRow(copied(given, length)).number;
    }

    // ---- what is asked

    public int kind(int row) throws IndexOutOfBoundsException {
        return rowOf(row).kind;
    }

    public int length(int row) throws IndexOutOfBoundsException {
        return rowOf(row).length;
    }

    public int depth(int row) throws IndexOutOfBoundsException {
        return depthOf(rowOf(row));
    }

    public int what(int row, int place) throws IndexOutOfBoundsException {
        Row given = rowOf(row);
        requirePlace(given, place);
        return given.whats[place];
    }

    public int at(int row, int place) throws IndexOutOfBoundsException {
        Row given = rowOf(row);
        requirePlace(given, place);
        Row part = given.hung[place];
        return part == null ? given.values[place] : part.number;
    }

    public boolean isDeep(int row, int other) throws IndexOutOfBoundsException {
        return areRowsDeep(rowOf(row), rowOf(other), MOST_LEVELS);
    }

    public boolean isFlat(int row, int other) throws IndexOutOfBoundsException, IllegalArgumentException {
        Row one = rowOf(row);
        Row two = rowOf(other);
        requireLikeKinds(one, two);
        return areRowsFlat(one, two);
    }

    public boolean areDeep(int row, int place, int other, int there)
            throws IndexOutOfBoundsException, IllegalArgumentException {
        Row one = rowOf(row);
        requirePlace(one, place);
        Row two = rowOf(other);
        requirePlace(two, there);
        requireThings(one);
        requireThings(two);
        return arePlacesDeep(one, place, two, there, MOST_LEVELS);
    }

    public int hash(int row) throws IndexOutOfBoundsException {
        return hashOf(rowOf(row), MOST_LEVELS);
    }

    public int flatHash(int row) throws IndexOutOfBoundsException, IllegalStateException {
        Row given = rowOf(row);
        for (int place = 0; place < given.length; place++) {
            if (given.hung[place] != null) {
                throw new IllegalStateException("a row hangs in it");
            }
        }
        return hashOf(given, 1);
    }

    public String text(int row) throws IndexOutOfBoundsException {
        writeAnew(words, rowOf(row));
        return words.toString();
    }

    public int differ(int row, int other) throws IndexOutOfBoundsException, IllegalArgumentException {
        Row one = rowOf(row);
        Row two = rowOf(other);
        requireLikeKinds(one, two);
        return firstUnlike(one, two);
    }

    public int compare(int row, int other) throws IndexOutOfBoundsException, IllegalArgumentException {
        Row one = rowOf(row);
        Row two = rowOf(other);
        requireLikeKinds(one, two);
        if (one.kind == THINGS) {
            throw new IllegalArgumentException("rows of things are not compared");
        }
        int shorter = Math.min(one.length, two.length);
        for (int place = 0; place < shorter; place++) {
            if (one.values[place] != two.values[place]) {
                return one.values[place] < two.values[place] ? -1 : 1;
            }
        }
        if (one.length == two.length) {
            return 0;
        }
        return one.length < two.length ? -1 : 1;
    }

    // ---- the whole

    public int knock() {
        knocks++;
        return knocks;
    }

    public int house(int what) throws IllegalArgumentException {
        switch (what) {
            case 0:
                return rows.size();
            case 1:
                return makerMade;
            case 2:
                return makerRefused;
            case 3:
                return knocks;
            case 4:
                return pairsDeep();
            case 5:
                return greatestDepth();
            default:
                throw new IllegalArgumentException("nothing to tell of that");
        }
    }

    public boolean isSound() {
        for (int row = 0; row < rows.size(); row++) {
            Row one = rows.get(row);
            writeAnew(words, one);
            if (!isSoundAlone(one)) {
                return false;
            }
            for (int other = row; other < rows.size(); other++) {
                if (!isSoundPair(one, rows.get(other))) {
                    return false;
                }
            }
        }
        return true;
    }

    public long digest() {
        long d = DIGEST_START;
        for (int what = 0; what <= 5; what++) {
            d = d * HASH_STEP + house(what);
        }
        for (int row = 0; row < rows.size(); row++) {
            d = digestOfRow(d, row);
        }
        for (int row = 0; row < rows.size(); row++) {
            for (int other = row + 1; other < rows.size(); other++) {
                d = d * HASH_STEP + (isDeep(row, other) ? 1 : 0);
            }
        }
        return d * HASH_STEP + (isSound() ? 1 : 0);
    }

    // ---- what is wanted of what is given

    private Row rowOf(int row) {
        if (row < 0 || row >= rows.size()) {
            throw new IndexOutOfBoundsException("no such row");
        }
        return rows.get(row);
    }

    private static void requirePlace(Row row, int place) {
        if (place < 0 || place >= row.length) {
            throw new IndexOutOfBoundsException("no such place");
        }
    }

    private static void requireNumber(int number) {
        if (number < -GREATEST_NUMBER || number > GREATEST_NUMBER) {
            throw new IllegalArgumentException("no number");
        }
    }

    private static void requireLength(int length) {
        if (length < 0 || length > MOST_PLACES) {
            throw new IllegalArgumentException("no such length");
        }
    }

    private static void requireThings(Row row) {
        if (row.kind != THINGS) {
            throw new IllegalArgumentException("no row of things");
        }
    }

    private static void requireLikeKinds(Row one, Row two) {
        if (one.kind != two.kind) {
            throw new IllegalArgumentException("rows of unlike kinds");
        }
    }

    private static void requireLess(int part, int row) {
        if (part >= row) {
            throw new IllegalStateException("a row hangs only in rows with greater numbers");
        }
    }

    private void requireRoom(int more) {
        if (rows.size() + more > MOST_ROWS) {
            throw new IllegalStateException("too many rows");
        }
    }

    private void requireDepths(Row changed, int changedDepth) {
        for (int row = 0; row < rows.size(); row++) {
            if (depthIf(rows.get(row), changed, changedDepth, MOST_DEPTH) > MOST_DEPTH) {
                throw new IllegalStateException("a row would be too deep");
            }
        }
    }

    // ---- making rows

    private Row addRow(Row row) {
        row.number = rows.size();
        rows.add(row);
        return row;
    }

    private static Row copied(Row row, int length) {
        Row fresh = new Row(row.kind, length);
        int kept = Math.min(row.length, length);
        for (int place = 0; place < kept; place++) {
            fresh.putSame(place, row, place);
        }
        return fresh;
    }

    private static int rowsInDeepTwin(Row row, int levels) {
        int needed = 1;
        for (int place = 0; levels > 1 && place < row.length; place++) {
            Row part = row.hung[place];
            if (part != null) {
                needed += rowsInDeepTwin(part, levels - 1);
            }
        }
        return needed;
    }

    private static Row addDeepTwin(Deeprows store, Row row, int levels) {
        Row fresh = copied(row, row.length);
        for (int place = 0; levels > 1 && place < row.length; place++) {
            Row part = row.hung[place];
            if (part != null) {
                fresh.putRow(place, addDeepTwin(store, part, levels - 1));
            }
        }
        // Added last: the rows that hang in it have lesser numbers.
        return store.addRow(fresh);
    }

    private static int fitting(int kind, int given) {
        switch (kind) {
            case TRUTHS:
                return given & 1;
            case SIGNS:
                return Math.floorMod(given, LETTERS);
            default:
                return given;
        }
    }

    private static int bounded(int number) {
        return Math.max(-GREATEST_NUMBER, Math.min(GREATEST_NUMBER, number));
    }

    // ---- depth

    private static int depthOf(Row row) {
        return depthIf(row, null, 0, MOST_DEPTH);
    }

    /** The depth of a row, as it is if the row changed (null: none) is changedDepth deep. */
    private static int depthIf(Row row, Row changed, int changedDepth, int levels) {
        if (row == changed) {
            return changedDepth;
        }
        int depth = 1;
        for (int place = 0; levels > 1 && place < row.length; place++) {
            Row part = row.hung[place];
            if (part != null) {
                depth = Math.max(depth, 1 + depthIf(part, changed, changedDepth, levels - 1));
            }
        }
        return depth;
    }

    /** The greatest depth of the rows that hang in the other places. */
    private static int depthBeside(Row row, int place) {
        int greatest = 0;
        for (int beside = 0; beside < row.length; beside++) {
            Row part = row.hung[beside];
            if (beside != place && part != null) {
                greatest = Math.max(greatest, depthOf(part));
            }
        }
        return greatest;
    }

    private int greatestDepth() {
        int greatest = 0;
        for (int row = 0; row < rows.size(); row++) {
            greatest = Math.max(greatest, depthOf(rows.get(row)));
        }
        return greatest;
    }

    // ---- alike

    private static boolean areRowsDeep(Row one, Row two, int levels) {
        if (one == two) {
            return true;
        }
        if (levels < 1 || one.kind != two.kind || one.length != two.length) {
            return false;
        }
        for (int place = 0; place < one.length; place++) {
            if (!arePlacesDeep(one, place, two, place, levels)) {
                return false;
            }
        }
        return true;
    }

    private static boolean arePlacesDeep(Row one, int place, Row two, int there, int levels) {
        Row part = one.hung[place];
        Row otherPart = two.hung[there];
        if (part != null && otherPart != null) {
            return areRowsDeep(part, otherPart, levels - 1);
        }
        return arePlacesFlat(one, place, two, there);
    }

    private static boolean areRowsFlat(Row one, Row two) {
        if (one.kind != two.kind || one.length != two.length) {
            return false;
        }
        for (int place = 0; place < one.length; place++) {
            if (!arePlacesFlat(one, place, two, place)) {
                return false;
            }
        }
        return true;
    }

    private static boolean arePlacesFlat(Row one, int place, Row two, int there) {
        return one.whats[place] == two.whats[there]
                && one.values[place] == two.values[there]
                && one.hung[place] == two.hung[there];
    }

    private static int firstUnlike(Row one, Row two) {
        int shorter = Math.min(one.length, two.length);
        for (int place = 0; place < shorter; place++) {
            if (!arePlacesFlat(one, place, two, place)) {
                return place;
            }
        }
        return one.length == two.length ? NONE : shorter;
    }

    private int pairsDeep() {
        int pairs = 0;
        for (int row = 0; row < rows.size(); row++) {
            for (int other = row + 1; other < rows.size(); other++) {
                if (areRowsDeep(rows.get(row), rows.get(other), MOST_LEVELS)) {
                    pairs++;
                }
            }
        }
        return pairs;
    }

    // ---- hashes

    private static int hashOf(Row row, int levels) {
        int hash = 1;
        for (int place = 0; levels > 0 && place < row.length; place++) {
            hash = HASH_STEP * hash + hashOfPlace(row, place, levels);
        }
        return hash;
    }

    private static int hashOfPlace(Row row, int place, int levels) {
        Row part = row.hung[place];
        if (part != null) {
            return hashOf(part, levels - 1);
        }
        switch (row.whats[place]) {
            case NUMBER:
                return hashOfNumber(row.kind, row.values[place]);
            case TEXT:
                return hashOfText(signsOf(row.values[place]));
            default:
                return 0;
        }
    }

    private static int hashOfNumber(int kind, int number) {
        switch (kind) {
            case LONGS:
                long big = number * LONG_UNIT;
                return (int) (big ^ (big >>> 32));
            case TRUTHS:
                return number == 1 ? HASH_OF_TRUE : HASH_OF_FALSE;
            case SIGNS:
                return 'a' + number;
            default:
                return number;
        }
    }

    private static int hashOfText(String signs) {
        int hash = 0;
        for (int sign = 0; sign < signs.length(); sign++) {
            hash = HASH_STEP * hash + signs.charAt(sign);
        }
        return hash;
    }

    // ---- texts

    private static String signsOf(int text) {
        switch (text) {
            case 1:
                return "null";
            case 2:
                return "1";
            case 3:
                return "1, 2";
            case 4:
                return "[]";
            case 5:
                return "true";
            case 6:
                return "a";
            case 7:
                return "ab";
            case 8:
                return "-1";
            case 9:
                return "[1]";
            default:
                return "";
        }
    }

    private static void writeAnew(StringBuilder out, Row row) {
        out.setLength(0);
        writeRow(out, row, MOST_LEVELS);
    }

    private static void writeRow(StringBuilder out, Row row, int levels) {
        out.append('[');
        for (int place = 0; levels > 0 && place < row.length; place++) {
            if (place > 0) {
                writeSigns(out, ", ");
            }
            writePlace(out, row, place, levels);
        }
        out.append(']');
    }

    private static void writePlace(StringBuilder out, Row row, int place, int levels) {
        Row part = row.hung[place];
        if (part != null) {
            writeRow(out, part, levels - 1);
            return;
        }
        switch (row.whats[place]) {
            case NUMBER:
                writeNumber(out, row.kind, row.values[place]);
                break;
            case TEXT:
                writeSigns(out, signsOf(row.values[place]));
                break;
            default:
                writeSigns(out, "null");
        }
    }

    private static void writeNumber(StringBuilder out, int kind, int number) {
        switch (kind) {
            case LONGS:
                writeDigits(out, number * LONG_DIGITS);
                writeSigns(out, number == 0 ? "" : LONG_ZEROS);
                break;
            case TRUTHS:
                writeSigns(out, number == 1 ? "true" : "false");
                break;
            case SIGNS:
                out.append((char) ('a' + number));
                break;
            default:
                writeDigits(out, number);
        }
    }

    // Digit by digit and sign by sign: what the library makes on its way would be counted each time.
    private static void writeDigits(StringBuilder out, int number) {
        int rest = number < 0 ? -number : number;
        if (number < 0) {
            out.append('-');
        }
        for (int unit = 1000; unit > 0; unit /= 10) {
            if (unit == 1 || rest >= unit) {
                out.append((char) ('0' + rest / unit % 10));
            }
        }
    }

    private static void writeSigns(StringBuilder out, String signs) {
        for (int sign = 0; sign < signs.length(); sign++) {
            out.append(signs.charAt(sign));
        }
    }

    // ---- whether all is sound

    /** Looks at one row, whose text stands in words. */
    private boolean isSoundAlone(Row row) {
        int signs = words.length();
        if (signs < 2 || words.charAt(0) != '[' || words.charAt(signs - 1) != ']') {
            return false;
        }
        shell.putRow(0, row);
        return hashOf(shell, MOST_LEVELS) == HASH_STEP + hashOf(row, MOST_LEVELS);
    }

    /** Looks at two rows, or one twice; the text of the first one stands in words. */
    private boolean isSoundPair(Row one, Row two) {
        boolean deep = areRowsDeep(one, two, MOST_LEVELS);
        if (deep != areRowsDeep(two, one, MOST_LEVELS)) {
            return false;
        }
        if (deep) {
            writeAnew(otherWords, two);
            if (!tellTheSame(one, two)) {
                return false;
            }
        }
        shell.putRow(0, one);
        otherShell.putRow(0, two);
        if (deep != areRowsDeep(shell, otherShell, MOST_LEVELS)) {
            return false;
        }
        if (one.kind != two.kind) {
            return true;
        }
        boolean flat = areRowsFlat(one, two);
        return flat == (firstUnlike(one, two) == NONE) && (deep || !flat);
    }

    /** Whether they tell the same; the texts of both stand in words and otherWords. */
    private boolean tellTheSame(Row one, Row two) {
        if (one.kind != two.kind || hashOf(one, MOST_LEVELS) != hashOf(two, MOST_LEVELS)) {
            return false;
        }
        if (words.length() != otherWords.length()) {
            return false;
        }
        for (int sign = 0; sign < words.length() && sign < otherWords.length(); sign++) {
            if (words.charAt(sign) != otherWords.charAt(sign)) {
                return false;
            }
        }
        return true;
    }

    // ---- the checksum

    private long digestOfRow(long before, int row) {
        Row given = rowOf(row);
        writeAnew(words, given);
        long d = before;
        d = d * HASH_STEP + given.kind;
        d = d * HASH_STEP + given.length;
        d = d * HASH_STEP + depthOf(given);
        d = d * HASH_STEP + hashOf(given, MOST_LEVELS);
        d = d * HASH_STEP + words.length();
        for (int place = 0; place < given.length; place++) {
            d = d * HASH_STEP + what(row, place);
            d = d * HASH_STEP + at(row, place);
        }
        return d;
    }
}
