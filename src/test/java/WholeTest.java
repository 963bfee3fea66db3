/** Promises 30 to 33: knock, house, isSound, digest. */
public final class WholeTest {
    private static final Class<IllegalArgumentException> ARGUMENT = IllegalArgumentException.class;

    private static final Check check = new Check();

    public static void main(String[] args) {
        knock();
        counts();
        pairs();
        depths();
        isSound();
        digest();
        digestOrder();
        check.end();
    }

    private static void knock() {
        Deeprows x = new Deeprows();
        for (int times = 1; times <= 5; times++) {
            check.due("knock()", x.knock(), times);
            check.due("house(3)", x.house(3), times);
            x.empty();
        }
        check.due("another object", new Deeprows().knock(), 1);
    }

    private static void counts() {
        Deeprows x = new Deeprows();
        check.due("house(0)", x.house(0), 0);
        x.make(0, 2);
        x.make(4, 1);
        x.make(4, 0);
        check.due("house(0)", x.house(0), 3);
        x.setAll(0, 1, 1, -1);
        x.setAll(2, 1, 1, 0);
        x.setRows(1, 0);
        x.setRows(2, 7);
        check.due("house(1)", x.house(1), 4);
        x.setAll(0, 1, 1, 1);
        x.setAll(0, 1, 1, 0);
        check.due("house(1)", x.house(1), 4);
        check.due("house(2)", x.house(2), 2);
        check.refused(x, "setRows", IllegalStateException.class, () -> x.setRows(1, 1));
        check.refused(x, "setAll", ARGUMENT, () -> x.setAll(0, 0, 0, 5));
        x.fill(0, 1);
        x.fillRow(1, 0);
        x.drop();
        check.due("fill is no maker", x.house(1), 4);
        check.due("house(0)", x.house(0), 2);
        for (int wrong : new int[] {-1, 6, Stores.LEAST, Stores.GREATEST}) {
            check.refused(x, "house(" + wrong + ")", ARGUMENT, () -> x.house(wrong));
        }
    }

    private static void pairs() {
        Deeprows x = new Deeprows();
        int[] due = {0, 1, 3, 6, 10};
        for (int row = 0; row < 5; row++) {
            x.make(0, 1);
            check.due("all alike", x.house(4), due[row]);
        }
        x.put(0, 0, 1);
        check.due("one unlike", x.house(4), 6);
        x.put(1, 0, 1);
        check.due("two and three", x.house(4), 4);
        x.make(1, 1);
        check.due("of another kind", x.house(4), 4);
        x.make(4, 1);
        x.make(4, 1);
        x.hang(6, 0, 0);
        x.hang(7, 0, 1);
        check.due("two that are deeply alike", x.house(4), 5);
    }

    private static void depths() {
        Deeprows x = new Deeprows();
        check.due("without rows", x.house(5), 0);
        x.make(0, 1);
        check.due("house(5)", x.house(5), 1);
        for (int row = 1; row < 4; row++) {
            x.make(4, 1);
            x.hang(row, 0, row - 1);
            check.due("house(5)", x.house(5), row + 1);
        }
        x.make(4, 1);
        check.due("not that of the last one", x.house(5), 4);
    }

    private static void isSound() {
        Deeprows x = new Deeprows();
        check.due("without rows", x.isSound(), true);
        for (int row = 0; row < 12; row++) {
            x.make(row % 4 == 3 ? 4 : row % 4, row % 5);
            check.due("isSound()", x.isSound(), true);
        }
        Deeprows y = Stores.dearest();
        check.due("at the greatest depth", y.house(5), 4);
        check.due("many alike", y.house(4), 36);
        check.due("isSound()", y.isSound(), true);
        y.put(0, 3, 999);
        check.due("isSound()", y.isSound(), true);
        check.due("it changes nothing", y.digest(), y.digest());
    }

    private static void digest() {
        Deeprows x = new Deeprows();
        long empty = 7779;
        for (int what = 0; what <= 5; what++) {
            empty = empty * 31;
        }
        check.due("without rows", x.digest(), empty * 31 + 1);
        x.make(0, 1);
        x.put(0, 0, 5);
        x.make(4, 2);
        x.hang(1, 0, 0);
        x.say(1, 1, 7);
        x.setAll(0, 5, 0, -1);
        x.setAll(0, 5, 0, 0);
        x.setAll(0, 5, 0, 0);
        x.knock();
        x.knock();
        x.knock();
        long[] told = {2, 1, 2, 3, 0, 2, 0, 1, 1, 36, 3, 1, 5, 4, 2, 2, (31 + 36) * 31 + 3105, 9, 3, 0, 2, 7, 0, 1};
        long d = 7779;
        for (long v : told) {
            d = d * 31 + v;
        }
        check.due("digest()", x.digest(), d);
    }

    /** With four rows the order of the pairs can be told. */
    private static void digestOrder() {
        Deeprows x = new Deeprows();
        for (int row = 0; row < 4; row++) {
            x.make(0, row == 0 || row == 3 ? 1 : row * 2);
        }
        long d = 7779;
        for (long v : new long[] {4, 0, 0, 0, 1, 1}) {
            d = d * 31 + v;
        }
        for (int row = 0; row < 4; row++) {
            d = d * 31;
            d = d * 31 + x.length(row);
            d = d * 31 + 1;
            d = d * 31 + x.hash(row);
            d = d * 31 + x.text(row).length();
            for (int place = 0; place < x.length(row); place++) {
                d = (d * 31 + 1) * 31;
            }
        }
        for (long v : new long[] {0, 0, 1, 0, 0, 0, 1}) {
            d = d * 31 + v;
        }
        check.due("digest()", x.digest(), d);
    }
}
