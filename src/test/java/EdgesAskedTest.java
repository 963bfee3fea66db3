import java.math.BigInteger;

/** Promises 17 to 33: what is asked at the ends: 0 long, the greatest depth, sums that wrap around, full stores. */
public final class EdgesAskedTest {
    private static final String[] TEXTS = {"", "null", "1", "1, 2", "[]", "true", "a", "ab", "-1", "[1]"};

    private static final Check check = new Check();

    public static void main(String[] args) {
        lastOfTwelve();
        depthOneToFour();
        whatAndAtOfAlikeNumbers();
        textsAreAlikeJustIfTheSame();
        thingsThatTellTheSame();
        unlikeInOnePlace();
        zeroLong();
        deeplyAlikeAtTheGreatestDepth();
        flatlyOnlyTheSameRow();
        hashesOfNumbers();
        hashesOfTexts();
        hashesThatWrapAround();
        flatHashes();
        textsOfNumbers();
        theLongestText();
        differAtTheEnds();
        compareAtTheEnds();
        compareTheFirstUnlikePlace();
        compareBehindAlikePlaces();
        knockOften();
        housesOfNoneAndOfTwelve();
        soundAtTheGreatestDepth();
        digestWrapsAround();
        askingChangesNothing();
        check.end();
    }

    // ---- promises 17 to 21

    private static void lastOfTwelve() {
        Deeprows x = new Deeprows();
        for (int row = 0; row < 12; row++) {
            x.make((row + 3) % 5, row % 5);
        }
        for (int row = 0; row < 12; row++) {
            check.due("17: kind", x.kind(row), (row + 3) % 5);
            check.due("18: length", x.length(row), row % 5);
            check.due("19: depth", x.depth(row), 1);
        }
    }

    private static void depthOneToFour() {
        for (int kind = 0; kind <= 4; kind++) {
            for (int length = 0; length <= 4; length += 4) {
                Deeprows x = new Deeprows();
                x.make(kind, length);
                for (int row = 1; row < 4; row++) {
                    x.make(4, row);
                    x.hang(row, row - 1, row - 1);
                }
                for (int row = 0; row < 4; row++) {
                    check.due("19: depth", x.depth(row), 1 + row);
                }
            }
        }
        Deeprows y = new Deeprows();
        y.make(4, 4);
        y.fill(0, 5);
        y.say(0, 3, 9);
        check.due("19: numbers, texts and nothing are not deep", y.depth(0), 1);
    }

    private static void whatAndAtOfAlikeNumbers() {
        Deeprows x = new Deeprows();
        for (int row = 0; row < 10; row++) {
            x.make(0, 0);
        }
        x.make(4, 4);
        for (int number = 0; number <= 9; number++) {
            x.put(10, 0, number);
            x.say(10, 1, number);
            x.hang(10, 2, number);
            for (int place = 0; place < 3; place++) {
                check.due("20: what", x.what(10, place), 1 + place);
                check.due("21: at", x.at(10, place), number);
            }
            check.due("20: nothing in the last place", x.what(10, 3), 0);
            check.due("21: nothing in the last place", x.at(10, 3), -1);
        }
        x.put(10, 3, -1);
        check.due("20: the number -1", x.what(10, 3), 1);
        check.due("21: the number -1", x.at(10, 3), -1);
    }

    // ---- promises 22 to 24, 28: alike

    private static void textsAreAlikeJustIfTheSame() {
        Deeprows x = Stores.rows(4, 1, 1);
        for (int one = 0; one < TEXTS.length; one++) {
            for (int two = 0; two < TEXTS.length; two++) {
                x.say(0, 0, one);
                x.say(1, 0, two);
                alike(x, "texts " + one + " " + two, one == two, one == two);
            }
        }
    }

    /** The rows 0 and 1, one long, of things. */
    private static void alike(Deeprows x, String which, boolean deeply, boolean flatly) {
        check.due("22: " + which, x.isDeep(0, 1), deeply);
        check.due("22: turned, " + which, x.isDeep(1, 0), deeply);
        check.due("23: " + which, x.isFlat(0, 1), flatly);
        check.due("23: turned, " + which, x.isFlat(1, 0), flatly);
        check.due("24: " + which, x.areDeep(0, 0, 1, 0), deeply);
        check.due("24: turned, " + which, x.areDeep(1, 0, 0, 0), deeply);
        check.due("28: " + which, x.differ(0, 1), flatly ? -1 : 0);
        check.due("28: turned, " + which, x.differ(1, 0), flatly ? -1 : 0);
        check.due("31: " + which, x.house(4), deeply ? 1 : 0);
    }

    /** Things that have the same text, or the same number, but are not alike. */
    private static void thingsThatTellTheSame() {
        Deeprows x = Stores.rows(4, 1, 1);
        x.say(0, 0, 1);
        alike(x, "the text null and nothing", false, false);
        x.say(0, 0, 2);
        x.put(1, 0, 1);
        alike(x, "the text 1 and the number 1", false, false);
        x.say(0, 0, 8);
        x.put(1, 0, -1);
        alike(x, "the text -1 and the number -1", false, false);
        x.none(0, 0);
        alike(x, "nothing and the number -1", false, false);
        x.put(1, 0, 0);
        alike(x, "nothing and the number 0", false, false);
        x.say(0, 0, 0);
        alike(x, "the text of the number 0 and the number 0", false, false);
        x.none(1, 0);
        alike(x, "the empty text and nothing", false, false);
        x.none(0, 0);
        alike(x, "nothing and nothing", true, true);
        x.put(0, 0, -999);
        x.put(1, 0, -999);
        alike(x, "the least number twice", true, true);
        x.put(0, 0, 999);
        alike(x, "the greatest and the least", false, false);
        Deeprows y = new Deeprows();
        y.make(0, 0);
        y.make(4, 1);
        y.make(4, 1);
        y.hang(1, 0, 0);
        y.say(2, 0, 4);
        check.due("22: a row 0 long and the text []", y.isDeep(1, 2), false);
        check.due("27: tell the same", y.text(1), y.text(2));
        y.put(2, 0, 0);
        check.due("22: the row 0 and the number 0", y.isDeep(1, 2), false);
        check.due("23: the row 0 and the number 0", y.isFlat(1, 2), false);
        y.none(2, 0);
        check.due("22: a row and nothing", y.isDeep(2, 1), false);
        check.due("23: a row and nothing", y.isFlat(2, 1), false);
        check.due("24: a row and nothing", y.areDeep(2, 0, 1, 0), false);
    }

    private static void unlikeInOnePlace() {
        for (int kind = 0; kind <= 4; kind++) {
            for (int place = 0; place < 4; place++) {
                Deeprows x = Stores.rows(kind, 4, 4);
                x.put(1, place, 1);
                check.due("22: unlike in " + place, x.isDeep(0, 1), false);
                check.due("23: unlike in " + place, x.isFlat(0, 1), false);
                check.due("28: unlike in " + place, x.differ(0, 1), place);
                check.due("28: unlike in " + place, x.differ(1, 0), place);
            }
        }
    }

    private static void zeroLong() {
        for (int kind = 0; kind <= 4; kind++) {
            Deeprows x = new Deeprows();
            x.make(kind, 0);
            for (int other = 0; other <= 4; other++) {
                x.make(other, 0);
                check.due("22: 0 long, of the kinds " + kind + " " + other, x.isDeep(0, 1 + other), kind == other);
            }
            check.due("22: 0 long with itself", x.isDeep(0, 0), true);
            check.due("23: 0 long with itself", x.isFlat(0, 0), true);
            check.due("23: 0 long with another one", x.isFlat(0, 1 + kind), true);
            check.due("25: 0 long", x.hash(0), 1);
            check.due("26: 0 long", x.flatHash(0), 1);
            check.due("27: 0 long", x.text(0), "[]");
            check.due("28: 0 long", x.differ(0, 1 + kind), -1);
            if (kind < 4) {
                check.due("29: 0 long", x.compare(0, 1 + kind), 0);
            }
            check.due("31: pairs of rows 0 long", x.house(4), 1);
            check.due("31: depth of rows 0 long", x.house(5), 1);
        }
        Deeprows y = new Deeprows();
        y.make(0, 0);
        y.make(0, 0);
        y.make(1, 0);
        y.make(4, 3);
        y.setRows(3, 0);
        check.due("24: two rows 0 long", y.areDeep(3, 0, 3, 1), true);
        check.due("24: two rows 0 long of unlike kinds", y.areDeep(3, 0, 3, 2), false);
        check.due("25: rows 0 long in it", y.hash(3), ((31 + 1) * 31 + 1) * 31 + 1);
        check.due("27: rows 0 long in it", y.text(3), "[[], [], []]");
    }

    /** Two towers of depth 4, the rows 0, 2, 4, 6 and the rows 1, 3, 5, 7, each row hung last into the next. */
    private static Deeprows towers(int kind) {
        Deeprows x = Stores.rows(kind, 2, 2);
        for (int row = 2; row < 8; row++) {
            x.make(4, 2);
            x.hang(row, 1, row - 2);
        }
        return x;
    }

    private static void deeplyAlikeAtTheGreatestDepth() {
        for (int kind = 0; kind <= 4; kind++) {
            Deeprows x = towers(kind);
            for (int row = 0; row < 8; row += 2) {
                check.due("22: deeply", x.isDeep(row, row + 1), true);
                check.due("23: flatly", x.isFlat(row, row + 1), row == 0);
                check.due("25: hash", x.hash(row), x.hash(row + 1));
                check.due("27: text", x.text(row), x.text(row + 1));
                check.due("28: differ", x.differ(row, row + 1), row == 0 ? -1 : 1);
            }
            check.due("24: what hangs in them", x.areDeep(6, 1, 7, 1), true);
            check.due("24: of unlike depth", x.areDeep(6, 1, 5, 1), false);
            check.due("31: four pairs", x.house(4), 4);
            check.due("32: sound", x.isSound(), true);
            x.put(1, 1, 1);
            for (int row = 0; row < 8; row += 2) {
                check.due("22: unlike at the bottom", x.isDeep(row, row + 1), false);
                check.due("27: unlike at the bottom", x.text(row).equals(x.text(row + 1)), false);
            }
            check.due("24: unlike at the bottom", x.areDeep(6, 1, 7, 1), false);
            check.due("31: no pair", x.house(4), 0);
            check.due("32: sound", x.isSound(), true);
        }
        Deeprows y = towers(0);
        y.put(7, 0, 1);
        check.due("22: unlike at the top only", y.isDeep(6, 7), false);
        check.due("24: unlike at the top only", y.areDeep(6, 1, 7, 1), true);
    }

    private static void flatlyOnlyTheSameRow() {
        Deeprows x = towers(2);
        check.due("23: alike rows, not the same one", x.isFlat(2, 3), false);
        x.hang(3, 1, 0);
        check.due("23: the same one", x.isFlat(2, 3), true);
        check.due("23: not those above, which hold two rows", x.isFlat(4, 5), false);
        check.due("28: nor differ", x.differ(4, 5), 1);
        check.due("23: a row with itself", x.isFlat(7, 7), true);
        check.due("28: a row with itself", x.differ(7, 7), -1);
        check.due("22: a row with itself", x.isDeep(7, 7), true);
        check.due("24: a place with itself", x.areDeep(7, 1, 7, 1), true);
    }

    // ---- promises 25 and 26: hashes

    private static void hashesOfNumbers() {
        // Of the longs: 3000000000 is 0xB2D05E00; 999 times that is 697 times 2 to the 32nd and 3407794688 more.
        int[][] due = {
            {0, 31, 31, 31 + 1237, 31 + 97, 31},
            {1, 32, 31 + (int) 3000000000L, 31 + 1231, 31 + 98, 32},
            {-1, 30, 31 + (int) (-3000000000L ^ 0xFFFFFFFFL), 31 + 1231, 31 + 122, 30},
            {999, 1030, 31 + (int) (3407794688L ^ 697), 31 + 1231, 31 + 108, 1030},
            {-999, -968, 31 + (int) (887172608L ^ -698), 31 + 1231, 31 + 112, -968},
        };
        Deeprows x = new Deeprows();
        for (int kind = 0; kind <= 4; kind++) {
            x.make(kind, 1);
        }
        for (int[] line : due) {
            for (int kind = 0; kind <= 4; kind++) {
                x.put(kind, 0, line[0]);
                check.due("25: of " + line[0] + " in " + kind, x.hash(kind), line[1 + kind]);
                check.due("26: of " + line[0] + " in " + kind, x.flatHash(kind), line[1 + kind]);
            }
        }
        x.none(4, 0);
        check.due("25: of nothing", x.hash(4), 31);
        x.hang(4, 0, 2);
        check.due("25: of a row", x.hash(4), 31 + 31 + 1231);
    }

    private static void hashesOfTexts() {
        // The codes: [ 91, ] 93, comma 44, blank 32, - 45, 1 49, 2 50, a 97, b 98, e 101, l 108, n 110, r 114, t 116.
        int[] due = {0, ((110 * 31 + 117) * 31 + 108) * 31 + 108, 49, ((49 * 31 + 44) * 31 + 32) * 31 + 50,
            91 * 31 + 93, ((116 * 31 + 114) * 31 + 117) * 31 + 101, 97, 97 * 31 + 98, 45 * 31 + 49,
            (91 * 31 + 49) * 31 + 93};
        Deeprows x = Stores.rows(4, 1);
        for (int text = 0; text <= 9; text++) {
            x.say(0, 0, text);
            check.due("25: of the text " + text, x.hash(0), 31 + due[text]);
            check.due("26: of the text " + text, x.flatHash(0), 31 + due[text]);
            check.due("27: of the text " + text, x.text(0), "[" + TEXTS[text] + "]");
        }
    }

    private static BigInteger rowHash(long... hashes) {
        BigInteger hash = BigInteger.ONE;
        for (long each : hashes) {
            hash = hash.multiply(BigInteger.valueOf(31)).add(BigInteger.valueOf(each));
        }
        return hash;
    }

    private static void wraps(String which, int got, BigInteger whole) {
        check.due(which + " is greater than an int", whole.bitLength() > 31, true);
        check.due(which + " wraps around", got, whole.intValue());
    }

    private static void hashesThatWrapAround() {
        Deeprows x = new Deeprows();
        x.make(1, 4);
        x.fill(0, 1);
        int one = (int) 3000000000L;
        check.due("25: of one long alone it is below 0", one < 0, true);
        wraps("25: four longs", x.hash(0), rowHash(one, one, one, one));
        wraps("26: four longs", x.flatHash(0), rowHash(one, one, one, one));
        x.make(4, 4);
        x.fillRow(1, 0);
        int first = x.hash(0);
        wraps("25: four rows", x.hash(1), rowHash(first, first, first, first));
        x.make(4, 4);
        for (int place = 0; place < 4; place++) {
            x.say(2, place, 1);
        }
        wraps("25: four texts", x.hash(2), rowHash(3392903, 3392903, 3392903, 3392903));
        wraps("26: four texts", x.flatHash(2), rowHash(3392903, 3392903, 3392903, 3392903));
        x.make(4, 4);
        x.fillRow(3, 1);
        int second = x.hash(1);
        wraps("25: at depth 3", x.hash(3), rowHash(second, second, second, second));
        x.make(4, 4);
        x.fillRow(4, 3);
        int third = x.hash(3);
        wraps("25: at depth 4", x.hash(4), rowHash(third, third, third, third));
    }

    private static void flatHashes() {
        Deeprows x = Stores.ladder();
        x.make(4, 4);
        x.put(4, 0, 999);
        x.say(4, 1, 9);
        x.put(4, 3, -999);
        check.due("26: of all but rows", x.flatHash(4), ((((31 + 999) * 31) + 89063) * 31) * 31 - 999);
        check.due("26: is the hash then", x.flatHash(4), x.hash(4));
        x.hang(3, 0, 2);
        x.none(3, 0);
        check.due("26: once a row hung there", x.flatHash(3), 31 * 31);
        check.due("26: not of another row", x.flatHash(0), 31 * 31);
    }

    // ---- promise 27: texts

    private static void textsOfNumbers() {
        int[] numbers = {0, 1, -1, 9, -9, 10, -10, 99, -99, 100, -100, 333, 334, -333, -334, 999, -999};
        String[] longs = {"0", "3000000000", "-3000000000", "27000000000", "-27000000000", "30000000000",
            "-30000000000", "297000000000", "-297000000000", "300000000000", "-300000000000", "999000000000",
            "1002000000000", "-999000000000", "-1002000000000", "2997000000000", "-2997000000000"};
        Deeprows x = new Deeprows();
        x.make(0, 1);
        x.make(1, 1);
        x.make(4, 1);
        for (int k = 0; k < numbers.length; k++) {
            for (int row = 0; row < 3; row++) {
                x.put(row, 0, numbers[k]);
            }
            check.due("27: of ints", x.text(0), "[" + numbers[k] + "]");
            check.due("27: of longs", x.text(1), "[" + longs[k] + "]");
            check.due("27: of things", x.text(2), "[" + numbers[k] + "]");
        }
        Deeprows signs = Stores.rows(3, 4);
        StringBuilder all = new StringBuilder();
        for (int number = 0; number < 26; number++) {
            signs.put(0, number % 4, number);
            all.append(signs.text(0).charAt(1 + 3 * (number % 4)));
        }
        check.due("27: of signs", all.toString(), "abcdefghijklmnopqrstuvwxyz");
    }

    private static void theLongestText() {
        Deeprows x = Stores.dearest();
        String text = "-2997000000000";
        for (int row = 0; row < 4; row++) {
            text = "[" + text + ", " + text + ", " + text + ", " + text + "]";
            check.due("27: of depth " + (row + 1), x.text(row), text);
        }
        check.due("27: its length", text.length(), 4264);
        check.due("27: twice the same", x.text(3), text);
        check.due("27: a short one after a long one", Stores.rows(0, 0).text(0), "[]");
        x.empty();
        x.make(2, 0);
        check.due("27: a short one after a long one", x.text(0), "[]");
    }

    // ---- promises 28 and 29

    private static void differAtTheEnds() {
        for (int kind = 0; kind <= 4; kind++) {
            Deeprows x = Stores.rows(kind, 0, 1, 2, 3, 4);
            for (int row = 0; row <= 4; row++) {
                for (int other = 0; other <= 4; other++) {
                    int due = row == other ? -1 : Math.min(row, other);
                    check.due("28: " + row + " and " + other + " long", x.differ(row, other), due);
                    check.due("23: " + row + " and " + other + " long", x.isFlat(row, other), row == other);
                    check.due("22: " + row + " and " + other + " long", x.isDeep(row, other), row == other);
                }
            }
            x.put(4, 2, 1);
            check.due("28: unlike in the last place of the shorter one", x.differ(3, 4), 2);
            check.due("28: unlike behind the shorter one", x.differ(2, 4), 2);
            x.put(4, 0, 1);
            check.due("28: unlike in the first place", x.differ(3, 4), 0);
            check.due("28: 0 long before all", x.differ(4, 0), 0);
        }
    }

    private static void compareAtTheEnds() {
        int[][] ordered = {{-999, -998, -1, 0, 1, 998, 999}, {-999, -998, -1, 0, 1, 998, 999}, {0, 1},
            {0, 1, 12, 24, 25}};
        for (int kind = 0; kind <= 3; kind++) {
            Deeprows x = Stores.rows(kind, 1, 1);
            for (int one : ordered[kind]) {
                for (int two : ordered[kind]) {
                    x.put(0, 0, one);
                    x.put(1, 0, two);
                    check.due("29: " + one + " and " + two, x.compare(0, 1), Integer.compare(one, two));
                    check.due("29: " + two + " and " + one, x.compare(1, 0), Integer.compare(two, one));
                }
            }
            Deeprows y = Stores.rows(kind, 0, 1, 2, 3, 4);
            for (int row = 0; row <= 4; row++) {
                for (int other = 0; other <= 4; other++) {
                    int due = Integer.compare(row, other);
                    check.due("29: " + row + " and " + other + " long", y.compare(row, other), due);
                }
            }
        }
    }

    private static void compareTheFirstUnlikePlace() {
        for (int kind = 0; kind <= 3; kind++) {
            Deeprows x = Stores.rows(kind, 4, 4, 3);
            for (int place = 3; place >= 0; place--) {
                // In turn the one, then the other is greater in a place ahead of all that were unlike.
                x.put(place % 2, place, 1);
                check.due("29: first unlike in " + place, x.compare(0, 1), place % 2 == 0 ? 1 : -1);
                check.due("29: turned", x.compare(1, 0), place % 2 == 0 ? -1 : 1);
            }
            check.due("29: longer and greater", x.compare(0, 2), 1);
            check.due("29: shorter and less", x.compare(2, 0), -1);
            x.fill(2, 1);
            check.due("29: shorter, but greater", x.compare(2, 1), 1);
            check.due("29: longer, but less", x.compare(1, 2), -1);
        }
    }

    /** What stands alike ahead of the first unlike place counts nothing, be it less or greater. */
    private static void compareBehindAlikePlaces() {
        int[][] ordered = {{-999, 0, 999}, {-999, 0, 999}, {0, 1}, {0, 13, 25}};
        for (int kind = 0; kind <= 3; kind++) {
            for (int ahead : ordered[kind]) {
                Deeprows x = Stores.rows(kind, 4, 4);
                x.fill(0, ahead);
                x.fill(1, ahead);
                for (int place = 3; place >= 1; place--) {
                    for (int one : ordered[kind]) {
                        for (int two : ordered[kind]) {
                            x.put(0, place, one);
                            x.put(1, place, two);
                            // Behind the place all is unlike just the other way round.
                            for (int behind = place + 1; behind < 4; behind++) {
                                x.put(0, behind, one == two ? ahead : two);
                                x.put(1, behind, one == two ? ahead : one);
                            }
                            String which = one + " and " + two + " in place " + place + " behind " + ahead;
                            check.due("29: " + which, x.compare(0, 1), Integer.compare(one, two));
                            check.due("28: " + which, x.differ(0, 1), one == two ? -1 : place);
                        }
                    }
                    x.put(0, place, ahead);
                    x.put(1, place, ahead);
                }
            }
        }
    }

    // ---- promises 30 to 33

    private static void knockOften() {
        Deeprows x = new Deeprows();
        for (int times = 1; times <= 511; times++) {
            check.due("30: knock", x.knock(), times);
        }
        check.due("31: house(3)", x.house(3), 511);
    }

    private static void housesOfNoneAndOfTwelve() {
        Deeprows x = new Deeprows();
        for (int what = 0; what <= 5; what++) {
            check.due("31: house(" + what + ") of none", x.house(what), 0);
        }
        for (int row = 0; row < 12; row++) {
            x.make(4, 0);
            check.due("31: how many there are", x.house(0), row + 1);
            check.due("31: all pairs", x.house(4), row * (row + 1) / 2);
            check.due("31: the greatest depth", x.house(5), 1);
            check.due("31: made", x.house(1), row);
            x.setRows(row, row);
        }
        check.due("31: twelve", x.house(0), 12);
        check.due("31: of twelve alike", x.house(4), 66);
        Deeprows y = Stores.full();
        check.due("31: three of the kinds 0 and 1, two of the others", y.house(4), 3 + 3 + 1 + 1 + 1);
        y.hang(4, 0, 0);
        y.hang(9, 0, 4);
        check.due("31: a pair less", y.house(4), 8);
        check.due("31: depth 3", y.house(5), 3);
        y.empty();
        check.due("31: of none left", y.house(4), 0);
        check.due("31: of none left", y.house(5), 0);
        Deeprows z = Stores.ladder();
        check.due("31: the greatest depth there is", z.house(5), 4);
        z.drop();
        check.due("31: without the deepest", z.house(5), 3);
    }

    private static void soundAtTheGreatestDepth() {
        check.due("32: without rows", new Deeprows().isSound(), true);
        check.due("32: twelve rows", Stores.full().isSound(), true);
        check.due("32: one of each", Stores.oneOfEach().isSound(), true);
        check.due("32: the ladder", Stores.ladder().isSound(), true);
        // Two rows of depth 4 that share no row: each is hung into one more, of depth 5.
        Deeprows x = Stores.ladder();
        x.deepTwin(3);
        check.due("32: two ladders", x.isSound(), true);
        check.due("31: alike", x.house(4), 4);
        x.put(4, 1, 0);
        check.due("32: two unlike ladders", x.isSound(), true);
        // The same text, but not alike: nothing and the text null, a row and a text.
        Deeprows y = Stores.rows(4, 1, 1, 0, 1, 1);
        y.say(0, 0, 1);
        y.hang(3, 0, 2);
        y.say(4, 0, 4);
        check.due("27: the same text", y.text(0).equals(y.text(1)) && y.text(3).equals(y.text(4)), true);
        check.due("32: the same text, but not alike", y.isSound(), true);
        // The same hash, but not alike: nothing, 0 and the empty text; rows 0 long of each kind.
        Deeprows z = Stores.rows(4, 1, 1, 1);
        z.put(1, 0, 0);
        z.say(2, 0, 0);
        for (int kind = 0; kind <= 4; kind++) {
            z.make(kind, 0);
        }
        check.due("25: the same hash", z.hash(0) == z.hash(1) && z.hash(1) == z.hash(2), true);
        check.due("32: the same hash, but not alike", z.isSound(), true);
        check.due("31: none alike", z.house(4), 0);
    }

    private static void digestWrapsAround() {
        Deeprows x = Stores.dearest();
        x.setAll(0, -999, 0, -1);
        x.setAll(0, 0, 0, 3);
        x.knock();
        BigInteger d = BigInteger.valueOf(7779);
        for (int what = 0; what <= 5; what++) {
            d = next(d, x.house(what));
        }
        for (int row = 0; row < 12; row++) {
            for (int told : new int[] {x.kind(row), x.length(row), x.depth(row), x.hash(row), x.text(row).length()}) {
                d = next(d, told);
            }
            for (int place = 0; place < 4; place++) {
                d = next(next(d, x.what(row, place)), x.at(row, place));
            }
        }
        for (int row = 0; row < 12; row++) {
            for (int other = row + 1; other < 12; other++) {
                d = next(d, x.isDeep(row, other) ? 1 : 0);
            }
        }
        d = next(d, x.isSound() ? 1 : 0);
        check.due("33: the sum is greater than a long", d.bitLength() > 63, true);
        check.due("33: digest", x.digest(), d.longValue());
        check.due("33: digest again", x.digest(), d.longValue());
    }

    private static BigInteger next(BigInteger d, int v) {
        return d.multiply(BigInteger.valueOf(31)).add(BigInteger.valueOf(v));
    }

    /** What is asked changes nothing, also if it is asked often. */
    private static void askingChangesNothing() {
        Deeprows x = towers(3);
        long before = x.digest();
        for (int row = 0; row < 8; row++) {
            x.kind(row);
            x.length(row);
            x.depth(row);
            x.what(row, 1);
            x.at(row, 1);
            x.hash(row);
            x.text(row);
            for (int other = 0; other < 8; other++) {
                x.isDeep(row, other);
            }
            x.isFlat(row, row);
            x.differ(row, row);
        }
        x.areDeep(7, 1, 6, 1);
        x.flatHash(0);
        x.compare(0, 1);
        for (int what = 0; what <= 5; what++) {
            x.house(what);
        }
        x.isSound();
        check.due("17 to 33: asking changes nothing", x.digest(), before);
    }
}
