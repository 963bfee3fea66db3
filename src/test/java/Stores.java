/** Stores that more than one test begins with, and the numbers at the ends of what an int can be. */
final class Stores {
    static final int LEAST = Integer.MIN_VALUE;
    static final int GREATEST = Integer.MAX_VALUE;

    private Stores() {
    }

    /** Rows of one kind, as long as told. */
    static Deeprows rows(int kind, int... lengths) {
        Deeprows x = new Deeprows();
        for (int length : lengths) {
            x.make(kind, length);
        }
        return x;
    }

    /** One row of each kind, three long, numbered by kind; in row 4 hangs row 0. */
    static Deeprows oneOfEach() {
        Deeprows x = new Deeprows();
        for (int kind = 0; kind <= 4; kind++) {
            x.make(kind, 3);
        }
        x.hang(4, 0, 0);
        return x;
    }

    /** Row 0 of depth 1, row 1 of depth 2, row 2 of depth 3, row 3 of depth 4, each two long. */
    static Deeprows ladder() {
        Deeprows x = rows(4, 2, 2, 2, 2);
        for (int row = 1; row < 4; row++) {
            x.hang(row, 0, row - 1);
        }
        return x;
    }

    /** Twelve rows two long, of the kinds 0 to 4 in turn; nothing hangs. */
    static Deeprows full() {
        Deeprows x = new Deeprows();
        for (int row = 0; row < 12; row++) {
            x.make(row % 5, 2);
        }
        return x;
    }

    /** Twelve rows four long, as many as can be of the greatest depth, with the longest text there is. */
    static Deeprows dearest() {
        Deeprows x = new Deeprows();
        x.make(1, 4);
        x.fill(0, -999);
        for (int row = 1; row < 12; row++) {
            x.make(4, 4);
            x.fillRow(row, Math.min(row - 1, 2));
        }
        return x;
    }
}
