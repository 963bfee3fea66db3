import java.math.BigInteger;

/** Promises 1 to 16: the least and the greatest that is allowed, the empty and the full store, a row 0 long. */
public final class EdgesTest {
    private static final int GREATEST = Stores.GREATEST;
    private static final String[] AT_FIRST = {"0", "0", "false", "a", "null"};

    private static final Check check = new Check();

    public static void main(String[] args) {
        newObject();
        makeEachLength();
        makeTheTwelfth();
        lengthStays();
        dropDownToNone();
        emptyOfAll();
        putAtTheEnds();
        putTruths();
        putSigns();
        sayAtTheEnds();
        noneAtTheEnds();
        hangAtTheEnds();
        hangInManyPlaces();
        swapAtTheEnds();
        fillAtTheEnds();
        fillRowAtTheEnds();
        setAllBounded();
        setAllStops();
        setAllZeroLong();
        setRowsAtTheEnds();
        setRowsZeroLong();
        twinUpToTwelve();
        deepTwinUpToTwelve();
        deepTwinOfTheGreatestDepth();
        copyAtTheEnds();
        refusedMakerChangesNothing();
        objectsApart();
        check.end();
    }

    private static String timesOver(String what, int times) {
        return "[" + (what + ", ").repeat(times).replaceAll(", $", "") + "]";
    }

    // ---- promise 1

    private static void newObject() {
        Deeprows x = new Deeprows();
        check.due("1: knock() of a new one", x.knock(), 1);
        check.due("1: empty() of a new one", x.empty(), 0);
        check.due("1: make() of a new one", x.make(4, 4), 0);
    }

    // ---- promises 2 to 4

    private static void makeEachLength() {
        for (int kind = 0; kind <= 4; kind++) {
            Deeprows x = new Deeprows();
            for (int length = 0; length <= 4; length++) {
                check.due("2: make", x.make(kind, length), length);
                check.due("2: kind", x.kind(length), kind);
                check.due("2: length", x.length(length), length);
                check.due("2: depth", x.depth(length), 1);
                check.due("2: text at first", x.text(length), timesOver(AT_FIRST[kind], length));
            }
        }
    }

    private static void makeTheTwelfth() {
        for (int kind = 0; kind <= 4; kind++) {
            Deeprows x = Stores.full();
            check.due("2: twelve rows", x.house(0), 12);
            x.drop();
            check.due("2: the twelfth", x.make(kind, 4), 11);
            check.due("2: its kind", x.kind(11), kind);
            check.due("2: its text", x.text(11), timesOver(AT_FIRST[kind], 4));
            check.due("2: twelve rows", x.house(0), 12);
        }
    }

    private static void lengthStays() {
        Deeprows x = Stores.rows(4, 0, 4, 4);
        x.put(1, 3, 1);
        x.say(1, 0, 0);
        x.none(1, 3);
        x.swap(1, 0, 3);
        x.hang(2, 0, 0);
        x.fill(1, 5);
        x.fillRow(2, 1);
        x.setAll(1, 1, 1, 4);
        x.setAll(1, 1, 1, 0);
        x.setAll(0, 1, 1, 0);
        x.setRows(0, 4);
        for (int row = 0; row < 3; row++) {
            check.due("2: length stays", x.length(row), row == 0 ? 0 : 4);
            check.due("2: kind stays", x.kind(row), 4);
        }
    }

    private static void dropDownToNone() {
        Deeprows x = Stores.full();
        for (int left = 11; left >= 0; left--) {
            check.due("3: drop", x.drop(), left);
            check.due("3: house(0)", x.house(0), left);
        }
        Deeprows y = Stores.rows(4, 1, 1, 1);
        y.hang(2, 0, 1);
        y.hang(1, 0, 0);
        check.due("3: drop one in which rows hang", y.drop(), 2);
        check.due("3: those stay", y.text(1), "[[null]]");
        check.due("3: made anew of another kind", y.make(3, 0), 2);
        check.due("3: nothing of the old one", y.text(2), "[]");
        check.due("3: nor its depth", y.depth(2), 1);
        check.due("3: nor its kind", y.kind(2), 3);
    }

    private static void emptyOfAll() {
        Deeprows x = Stores.full();
        check.due("4: empty of twelve", x.empty(), 12);
        check.due("4: empty of none", x.empty(), 0);
        check.due("4: house(0)", x.house(0), 0);
        check.due("4: house(4)", x.house(4), 0);
        check.due("4: house(5)", x.house(5), 0);
        for (int row = 0; row < 12; row++) {
            check.due("4: make again", x.make(4, 1), row);
        }
        check.due("4: all anew", x.text(1), "[null]");
        check.due("4: empty of twelve again", x.empty(), 12);
        x.make(0, 0);
        check.due("4: empty of one", x.empty(), 1);
    }

    // ---- promises 5 to 7

    private static void putAtTheEnds() {
        String[] least = {"[-999, 0, 0, -999]", "[-2997000000000, 0, 0, -2997000000000]",
            "[true, false, false, true]", "[p, a, a, p]", "[-999, null, null, -999]"};
        String[] greatest = {"[999, 0, 0, 999]", "[2997000000000, 0, 0, 2997000000000]",
            "[true, false, false, true]", "[l, a, a, l]", "[999, null, null, 999]"};
        for (int kind = 0; kind <= 4; kind++) {
            Deeprows x = Stores.rows(kind, 4);
            check.due("5: put the least first", x.put(0, 0, -999), 0);
            check.due("5: put the least last", x.put(0, 3, -999), 0);
            check.due("5: text", x.text(0), least[kind]);
            x.put(0, 0, 999);
            x.put(0, 3, 999);
            check.due("5: text", x.text(0), greatest[kind]);
        }
        Deeprows full = Stores.full();
        check.due("5: put into the last row", full.put(11, 1, 999), 11);
        check.due("5: at", full.at(11, 1), 999);
    }

    private static void putTruths() {
        Deeprows x = Stores.rows(2, 1);
        int[] odd = {1, -1, 3, -3, 999, -999, 997, -997};
        int[] even = {0, 2, -2, 998, -998, 4, -4};
        for (int number : odd) {
            x.put(0, 0, number);
            check.due("5: odd is true " + number, x.text(0), "[true]");
            check.due("5: told as 1", x.at(0, 0), 1);
        }
        for (int number : even) {
            x.put(0, 0, number);
            check.due("5: even is false " + number, x.text(0), "[false]");
            check.due("5: told as 0", x.at(0, 0), 0);
        }
    }

    private static void putSigns() {
        Deeprows x = Stores.rows(3, 1);
        int[] numbers = {0, 25, 26, 27, 51, 52, -1, -25, -26, -27, -52, 999, -999, 988, -988};
        String signs = "azabzazbazalpaa";
        for (int k = 0; k < numbers.length; k++) {
            x.put(0, 0, numbers[k]);
            check.due("5: the rest by 26 of " + numbers[k], x.text(0), "[" + signs.charAt(k) + "]");
            check.due("5: told", x.at(0, 0), signs.charAt(k) - 'a');
        }
    }

    private static void sayAtTheEnds() {
        Deeprows x = Stores.rows(4, 4);
        check.due("6: say the least", x.say(0, 0, 0), 0);
        check.due("6: say the greatest", x.say(0, 3, 9), 0);
        check.due("6: text", x.text(0), "[, null, null, [1]]");
        check.due("6: at", x.at(0, 0), 0);
        check.due("6: at", x.at(0, 3), 9);
        check.due("6: an empty text is not nothing", x.what(0, 0), 2);
        Deeprows full = Stores.full();
        check.due("6: say into one of twelve", full.say(9, 1, 9), 9);
    }

    private static void noneAtTheEnds() {
        Deeprows x = Stores.rows(4, 4);
        x.fill(0, 0);
        check.due("7: none in the first place", x.none(0, 0), 0);
        check.due("7: none in the last place", x.none(0, 3), 0);
        check.due("7: none where there is nothing", x.none(0, 3), 0);
        check.due("7: text", x.text(0), "[null, 0, 0, null]");
    }

    // ---- promises 8 and 9

    private static void hangAtTheEnds() {
        Deeprows x = new Deeprows();
        for (int row = 0; row < 12; row++) {
            x.make(4, 4);
        }
        check.due("8: the first into the last", x.hang(11, 0, 0), 2);
        check.due("8: the one below into the last", x.hang(11, 3, 10), 2);
        check.due("8: the first into the second", x.hang(1, 0, 0), 2);
        check.due("8: at", x.at(11, 0), 0);
        check.due("8: at", x.at(11, 3), 10);
        check.due("8: depth 3", x.hang(2, 0, 1), 3);
        check.due("8: depth 4", x.hang(3, 3, 2), 4);
        check.due("8: depth 4 in the last", x.hang(11, 1, 2), 4);
        check.due("8: depth 4 twice", x.hang(11, 2, 2), 4);
        check.due("8: one of depth 2 in place of one of 3", x.hang(11, 1, 1), 4);
        check.due("8: likewise in the other place", x.hang(11, 2, 1), 3);
        check.due("8: one 0 long counts", Stores.rows(4, 0, 1).hang(1, 0, 0), 2);
    }

    private static void hangInManyPlaces() {
        Deeprows x = Stores.rows(4, 1, 4, 4);
        for (int place = 0; place < 4; place++) {
            x.hang(1, place, 0);
            x.hang(2, place, 0);
        }
        x.say(0, 0, 7);
        check.due("8: the same row in many places", x.text(1), "[[ab], [ab], [ab], [ab]]");
        check.due("8: and in many rows", x.text(2), "[[ab], [ab], [ab], [ab]]");
    }

    private static void swapAtTheEnds() {
        for (int kind = 0; kind <= 4; kind++) {
            Deeprows x = Stores.rows(kind, 1, 4);
            x.put(0, 0, 1);
            check.due("9: the only place with itself", x.swap(0, 0, 0), 0);
            check.due("9: at", x.at(0, 0), 1);
            x.put(1, 0, 1);
            check.due("9: the first and the last", x.swap(1, 0, 3), 1);
            check.due("9: at", x.at(1, 3), 1);
            check.due("9: what was last is first", x.at(1, 0), kind == 4 ? -1 : 0);
            check.due("9: the last and the first", x.swap(1, 3, 0), 1);
            check.due("9: at", x.at(1, 0), 1);
            check.due("9: the last with itself", x.swap(1, 3, 3), 1);
            check.due("9: what", x.what(1, 3), kind == 4 ? 0 : 1);
        }
        Deeprows y = Stores.ladder();
        y.swap(3, 0, 1);
        check.due("9: a row changes its place", y.at(3, 1), 2);
        check.due("9: nothing is there then", y.what(3, 0), 0);
        check.due("9: the depth stays", y.depth(3), 4);
        y.swap(3, 1, 1);
        check.due("9: a row with itself", y.at(3, 1), 2);
    }

    // ---- promises 10 and 11

    private static void fillAtTheEnds() {
        for (int kind = 0; kind <= 4; kind++) {
            for (int length = 0; length <= 4; length++) {
                Deeprows x = Stores.rows(kind, length);
                check.due("10: fill with the least", x.fill(0, -999), length);
                for (int place = 0; place < length; place++) {
                    check.due("10: at", x.at(0, place), kind == 2 ? 1 : kind == 3 ? 15 : -999);
                }
                check.due("10: fill with the greatest", x.fill(0, 999), length);
                for (int place = 0; place < length; place++) {
                    check.due("10: at", x.at(0, place), kind == 2 ? 1 : kind == 3 ? 11 : 999);
                }
            }
        }
    }

    private static void fillRowAtTheEnds() {
        for (int length = 0; length <= 4; length++) {
            Deeprows x = Stores.ladder();
            x.make(4, length);
            check.due("11: with one of depth 3", x.fillRow(4, 2), length == 0 ? 1 : 4);
            for (int place = 0; place < length; place++) {
                check.due("11: at", x.at(4, place), 2);
            }
            check.due("11: with one of depth 1", x.fillRow(4, 0), length == 0 ? 1 : 2);
            check.due("11: depth", x.depth(4), length == 0 ? 1 : 2);
        }
        Deeprows y = Stores.ladder();
        y.make(4, 0);
        check.due("11: 0 long, with one of the greatest depth", y.fillRow(4, 3), 1);
        check.due("11: nothing is in it", y.text(4), "[]");
        Deeprows z = Stores.rows(4, 1, 1, 1, 1, 1, 1, 1, 1, 1, 1, 1, 4);
        check.due("11: the last one with the one below", z.fillRow(11, 10), 2);
        check.due("11: the last one with the first", z.fillRow(11, 0), 2);
        check.due("11: the second one with the first", z.fillRow(1, 0), 2);
    }

    // ---- promise 12

    private static void setAllBounded() {
        int[][] starts = {{999, 1}, {999, 999}, {998, 1}, {997, 1}, {996, 1}, {-999, -1}, {-999, -999}, {-998, -1},
            {-997, -1}, {-996, -1}, {0, 999}, {0, -999}, {-999, 999}, {999, -999}, {-999, 666}, {999, -1}, {0, 333},
            {1, 333}, {0, -333}, {-1, -333}};
        String[] due = {"999, 999, 999, 999", "999, 999, 999, 999", "998, 999, 999, 999", "997, 998, 999, 999",
            "996, 997, 998, 999", "-999, -999, -999, -999", "-999, -999, -999, -999", "-998, -999, -999, -999",
            "-997, -998, -999, -999", "-996, -997, -998, -999", "0, 999, 999, 999", "0, -999, -999, -999",
            "-999, 0, 999, 999", "999, 0, -999, -999", "-999, -333, 333, 999", "999, 998, 997, 996",
            "0, 333, 666, 999", "1, 334, 667, 999", "0, -333, -666, -999", "-1, -334, -667, -999"};
        Deeprows x = new Deeprows();
        x.make(0, 4);
        x.make(1, 4);
        x.make(4, 4);
        for (int k = 0; k < starts.length; k++) {
            for (int row = 0; row < 3; row++) {
                String call = "12: " + row + " from " + starts[k][0] + " by " + starts[k][1];
                check.due(call, x.setAll(row, starts[k][0], starts[k][1], -1), 4);
                check.due(call, numbersOf(x, row), due[k]);
            }
        }
    }

    private static String numbersOf(Deeprows x, int row) {
        StringBuilder told = new StringBuilder();
        for (int place = 0; place < x.length(row); place++) {
            told.append(place == 0 ? "" : ", ").append(x.at(row, place));
        }
        return told.toString();
    }

    private static void setAllStops() {
        for (int kind : new int[] {0, 1, 4}) {
            Deeprows x = Stores.rows(kind, 0, 1, 2, 3, 4);
            int made = 0;
            int refused = 0;
            for (int row = 0; row <= 4; row++) {
                for (int stop = -1; stop <= 4; stop++) {
                    x.fill(row, 7);
                    boolean refuses = stop >= 0 && stop < row;
                    made += refuses ? 0 : 1;
                    refused += refuses ? 1 : 0;
                    check.due("12: " + row + " long, stop " + stop, x.setAll(row, 5, 0, stop), refuses ? -9 : row);
                    for (int place = 0; place < row; place++) {
                        check.due("12: all or none", x.at(row, place), refuses ? 7 : 5);
                    }
                    check.due("12: made", x.house(1), made);
                    check.due("12: refused", x.house(2), refused);
                }
            }
            check.due("12: ten of thirty refuse", x.house(2), 10);
        }
    }

    private static void setAllZeroLong() {
        for (int kind : new int[] {0, 1, 4}) {
            Deeprows x = Stores.rows(kind, 0);
            for (int stop = -1; stop <= 4; stop++) {
                check.due("12: 0 long is never refused", x.setAll(0, 999, -999, stop), 0);
                check.due("12: and counts as made", x.house(1), 2 + stop);
            }
            check.due("12: none refused", x.house(2), 0);
        }
    }

    // ---- promise 13

    private static void setRowsAtTheEnds() {
        for (int length = 1; length <= 4; length++) {
            for (int from = 0; from <= 11 - length; from++) {
                Deeprows x = Stores.rows(0, 1, 1, 1, 1, 1, 1, 1, 1, 1, 1, 1);
                x.make(4, length);
                check.due("13: " + length + " long from " + from, x.setRows(11, from), 2);
                for (int place = 0; place < length; place++) {
                    check.due("13: at", x.at(11, place), from + place);
                }
                check.due("13: made", x.house(1), 1);
            }
        }
        Deeprows y = Stores.ladder();
        y.make(4, 3);
        check.due("13: up to the greatest depth", y.setRows(4, 0), 4);
        y.make(4, 1);
        check.due("13: of one that is deeper than the others", y.setRows(5, 2), 4);
        check.due("13: of the least", y.setRows(5, 0), 2);
    }

    private static void setRowsZeroLong() {
        Deeprows x = Stores.rows(4, 0, 1, 0);
        int made = 0;
        for (int from : new int[] {0, 1, 2, 3, 12, GREATEST - 1, GREATEST}) {
            for (int row = 0; row <= 2; row += 2) {
                made++;
                check.due("13: 0 long takes none from " + from, x.setRows(row, from), 1);
                check.due("13: and counts as made", x.house(1), made);
            }
        }
        check.due("13: text", x.text(2), "[]");
        Deeprows y = Stores.ladder();
        y.make(4, 0);
        check.due("13: 0 long beside the greatest depth", y.setRows(4, 3), 1);
    }

    // ---- promises 14 to 16

    private static void twinUpToTwelve() {
        for (int kind = 0; kind <= 4; kind++) {
            for (int length = 0; length <= 4; length++) {
                Deeprows x = Stores.rows(kind, length);
                x.fill(0, 999);
                for (int row = 1; row < 12; row++) {
                    check.due("14: twin of the one before", x.twin(row - 1), row);
                }
                check.due("14: kind", x.kind(11), kind);
                check.due("14: length", x.length(11), length);
                check.due("14: the same in it", x.text(11), x.text(0));
                check.due("14: all alike", x.house(4), 66);
            }
        }
        Deeprows y = Stores.ladder();
        check.due("14: of the greatest depth", y.twin(3), 4);
        check.due("14: its depth", y.depth(4), 4);
        check.due("14: the same row hangs there", y.at(4, 0), 2);
        check.due("14: only one is made", y.house(0), 5);
    }

    private static void deepTwinUpToTwelve() {
        for (int kind = 0; kind <= 4; kind++) {
            for (int length = 0; length <= 4; length++) {
                Deeprows x = Stores.rows(kind, length);
                x.fill(0, -999);
                for (int row = 1; row < 12; row++) {
                    check.due("15: deepTwin of the one before", x.deepTwin(row - 1), row);
                }
                check.due("15: the same in it", x.text(11), x.text(0));
                check.due("15: all alike", x.house(4), 66);
            }
        }
        // In the row 1 the row 0 hangs in as many places as it has: so many rows and one more are made.
        for (int length = 0; length <= 4; length++) {
            Deeprows x = Stores.rows(4, 0, length);
            x.fillRow(1, 0);
            for (int row = 2; row < 11 - length; row++) {
                x.make(0, 0);
            }
            check.due("15: just twelve", x.deepTwin(1), 11);
            for (int place = 0; place < length; place++) {
                check.due("15: one for each place", x.at(11, place), 11 - length + place);
            }
            check.due("15: nothing in the least", x.text(11), timesOver("[]", length));
        }
    }

    private static void deepTwinOfTheGreatestDepth() {
        Deeprows x = Stores.ladder();
        for (int row = 4; row < 8; row++) {
            x.make(0, 0);
        }
        check.due("15: four more than eight", x.deepTwin(3), 11);
        check.due("15: depth", x.depth(11), 4);
        for (int row = 11; row > 8; row--) {
            check.due("15: made ahead", x.at(row, 0), row - 1);
        }
        check.due("15: the least has nothing", x.what(8, 0), 0);
        check.due("15: deeply alike", x.isDeep(3, 11), true);
        check.due("15: not flatly", x.isFlat(3, 11), false);
        check.due("15: the first one stays", x.at(3, 0), 2);
    }

    private static void copyAtTheEnds() {
        String[] ones = {"1", "3000000000", "true", "b"};
        for (int kind = 0; kind <= 3; kind++) {
            for (int length = 0; length <= 4; length++) {
                Deeprows x = Stores.rows(kind, length);
                x.fill(0, 1);
                for (int other = 0; other <= 4; other++) {
                    String all = "[";
                    for (int place = 0; place < other; place++) {
                        all += (place == 0 ? "" : ", ") + (place < length ? ones[kind] : AT_FIRST[kind]);
                    }
                    check.due("16: copy", x.copy(0, other), 1 + other);
                    check.due("16: length", x.length(1 + other), other);
                    check.due("16: text", x.text(1 + other), all + "]");
                }
                for (int row = 6; row < 12; row++) {
                    check.due("16: up to twelve", x.copy(0, 4), row);
                }
            }
        }
    }

    // ---- "A method that throws an exception changes nothing", and what is refused

    private static void refusedMakerChangesNothing() {
        Deeprows x = Stores.rows(4, 1, 4);
        x.hang(1, 0, 0);
        x.say(1, 1, 9);
        x.put(1, 2, -999);
        for (int stop = 0; stop <= 3; stop++) {
            check.due("12: refused", x.setAll(1, 999, 0, stop), -9);
            check.due("12: the row stayed", x.text(1), "[[null], [1], -999, null]");
            check.due("12: its depth stayed", x.depth(1), 2);
            check.due("12: what hung still hangs", x.at(1, 0), 0);
            check.due("12: refused so often", x.house(2), 1 + stop);
        }
        check.due("12: never made", x.house(1), 0);
    }

    private static void objectsApart() {
        Deeprows x = new Deeprows();
        Deeprows y = new Deeprows();
        long fresh = y.digest();
        x.make(0, 4);
        x.setAll(0, 1, 1, -1);
        x.setAll(0, 1, 1, 0);
        x.knock();
        check.due("1: another object stays as it was", y.digest(), fresh);
        check.due("1: without rows", BigInteger.valueOf(7779).multiply(BigInteger.valueOf(31).pow(7)).add(BigInteger.ONE),
                BigInteger.valueOf(fresh));
    }
}
