/** The boundary cases of draws, sheets and what is kept: promises 25 to 35. */
public final class BoundaryRowsTest {
    private static final Edges EDGES = new Edges();
    private static final int BAD = Edges.BAD, NONE = Edges.NONE;
    private static final int NOTHING = Edges.NOTHING, OUTSIDE = Edges.OUTSIDE, UNLIKE = Edges.UNLIKE;
    private static final int BELOW = Edges.BELOW;
    private static final int MIN = Edges.MIN, MAX = Edges.MAX;
    private static final int BYTES = 0, CHARS = 1, LONGS = 2;

    private static void due(String sentence, int got, int want) {
        EDGES.due(sentence, got, want);
    }

    private static void refused(String sentence, Edges.Call call, int want) {
        EDGES.refused(sentence, Edges::rich, call, want);
    }

    // ---- promises 25 and 26

    /** "z (an int; 1 at first)": any int is taken. */
    private static void anySeed() {
        RaisedTableaux x = new RaisedTableaux();
        int was = 1;
        int[] seeds = {0, -1, MAX, MIN, 1};
        for (int seed : seeds) {
            due("seed", x.seed(seed), was);
            was = seed;
        }
        due("the last one", x.seed(0), 1);
    }

    private static void drawn(int n, int seed, int letters, int read, int z) {
        RaisedTableaux x = Edges.withLetters(n);
        x.seed(seed);
        due("drawn from " + seed, x.lot(0, letters), read);
        due("is held", x.of(0, 2), read);
        due("z becomes", x.seed(0), z);
    }

    /** "z * 1103515245 + 12345" wraps around; "z >>> 16 is drawn" and never below 0. */
    private static void drawsWrapAround() {
        // 16838 is drawn
        drawn(3, 1, 1, 3, 1103527590);
        // and 38526, of a z that is below 0
        drawn(3, 1, 2, 31, -1770082073);
        // 0 is drawn, of 12345
        drawn(5, 0, 1, 1, 12345);
        // 48697 is drawn: 3191464396 (which is 4294967296 less 1103502900) by 65536
        drawn(5, -1, 1, 3, -1103502900);
        drawn(2, -1, 1, 2, -1103502900);
        int[] seeds = {MIN, MAX, -1, 0, 1, 77, 123456789, -987654321};
        for (int seed : seeds) {
            for (int n = 2; n <= 5; n++) {
                long z = seed & 0xFFFFFFFFL;
                int read = 0;
                for (int k = 0; k < 6; k++) {
                    z = (z * 1103515245L + 12345L) & 0xFFFFFFFFL;
                    read = read * 10 + 1 + (int) (z / 65536 % n);
                }
                drawn(n, seed, 6, read, (int) z);
            }
        }
    }

    /** "k LETTERS (0 to 6)". */
    private static void lotsOf0To6() {
        for (int k = 0; k <= 6; k++) {
            RaisedTableaux x = Edges.after(Edges::rich);
            x.lot(1, k);
            due("so many letters", x.of(1, 1), k);
            due("are a word", x.of(1, 0), 0);
            int z = 77;
            for (int draw = 0; draw < k; draw++) {
                z = z * 1103515245 + 12345;
            }
            due("so many draws", x.seed(0), z);
        }
        int[] wrong = {-1, 7, MIN, MAX};
        EDGES.refusedForEach("lot: k is not 0 to 6", wrong, Edges::rich, (x, k) -> x.lot(0, k), BAD);
        RaisedTableaux x = new RaisedTableaux();
        due("of none", x.lot(5, 0), 0);
        due("is a thing", x.many(1), 32);
    }

    // ---- promise 27

    /** "rows of 0 bytes, 1 chars, 2 longs, 40 at most"; -14. */
    private static void sheetsOf0To40() {
        for (int sort = BYTES; sort <= LONGS; sort++) {
            int of = sort;
            RaisedTableaux x = new RaisedTableaux();
            due("a row of 40", x.sheet(3, sort, 40), 1);
            due("has a fortieth", x.put(3, 39, 5), 1);
            due("has no place more", x.put(3, 40, 5), OUTSIDE);
            due("a row of none", x.sheet(3, sort, 0), 1);
            due("is not missing, but has no place", x.item(3, sort, 0), OUTSIDE);
            int[] above = {41, 42, MAX};
            EDGES.refusedForEach("sheet: n above 40", above, Edges::rich, (y, n) -> y.sheet(0, of, n), BAD);
            int[] below = {-1, -40, MIN};
            EDGES.refusedForEach("sheet: n below 0", below, Edges::rich, (y, n) -> y.sheet(0, of, n), BELOW);
        }
        int[] sorts = {-2, 3, MIN, MAX};
        EDGES.refusedForEach("sheet: sort", sorts, Edges::rich, (x, sort) -> x.sheet(0, sort, 1), BAD);
        EDGES.refusedForEach("sheet", Edges.NO_SHEETS, Edges::rich, (x, sheet) -> x.sheet(sheet, 0, 1), BAD);
        EDGES.refusedForEach("sheet", Edges.NO_SHEETS, Edges::rich, (x, sheet) -> x.sheet(sheet, -1, 1), BAD);
    }

    /** "or is missing (sort -1, whatever n): 1". */
    private static void missingWhateverN() {
        int[] any = {0, 1, 40, 41, -1, MIN, MAX};
        for (int n : any) {
            RaisedTableaux x = Edges.after(Edges::rich);
            due("missing, whatever n", x.sheet(0, -1, n), 1);
            due("it is missing", x.item(0, BYTES, 0), NOTHING);
            due("others are not", x.item(1, CHARS, 0), 3);
            due("missing once more", x.sheet(0, -1, n), 1);
        }
        refused("what is missing already", x -> x.sheet(3, -1, 9), 1);
    }

    /** "becomes a row of n of a sort, all 0": nothing of an earlier row is left. */
    private static void newRowsAreAll0() {
        RaisedTableaux x = Edges.after(Edges::rich);
        x.sheet(1, CHARS, 40);
        due("the first place", x.item(1, CHARS, 0), 0);
        due("the last place", x.item(1, CHARS, 39), 0);
        x.put(1, 39, 7);
        x.sheet(1, CHARS, 39);
        due("a shorter row", x.item(1, CHARS, 39), OUTSIDE);
        x.sheet(1, LONGS, 40);
        due("another sort", x.item(1, CHARS, 39), UNLIKE);
        due("all 0", x.item(1, LONGS, 39), 0);
        x.put(1, 39, 7);
        x.sheet(1, -1, 0);
        x.sheet(1, LONGS, 40);
        due("all 0 after it was missing", x.item(1, LONGS, 39), 0);
    }

    // ---- promises 28 and 29

    private static void kept(int sort, int v, int item) {
        RaisedTableaux x = new RaisedTableaux();
        x.sheet(0, sort, 3);
        due("put", x.put(0, 1, v), 1);
        due("sort " + sort + " of " + v, x.item(0, sort, 1), item);
        due("the place ahead stays", x.item(0, sort, 0), 0);
        due("the place behind stays", x.item(0, sort, 2), 0);
    }

    /** "(bytes: its lowest 8 bits, chars: its lowest 16)". */
    private static void lowestBits() {
        int[] bytes = {0, 127, 128, 255, 256, 300, -1, -128, -129, 65535, MIN, MAX};
        int[] ofBytes = {0, 127, -128, -1, 0, 44, -1, -128, 127, -1, 0, -1};
        int[] chars = {0, 255, 256, 32767, 32768, 65535, 65536, 65537, -1, -65536, MIN, MAX};
        int[] ofChars = {0, 255, 256, 32767, 32768, 65535, 0, 1, 65535, 0, 0, 65535};
        for (int k = 0; k < bytes.length; k++) {
            kept(BYTES, bytes[k], ofBytes[k]);
            kept(CHARS, chars[k], ofChars[k]);
            kept(LONGS, bytes[k], bytes[k]);
            kept(LONGS, chars[k], chars[k]);
        }
    }

    /** "n places of a row from i on are outside if n or i is below 0, or both together are more". */
    private static void placesOfPutAndItem() {
        int[][] outside = {{-1, 6, 7, MIN, MAX}, {-1, 40, 41, MIN, MAX}, {-1, 3, 4, MIN, MAX}};
        int[] last = {5, 39, 2};
        int[] lastItems = {9, 65535, -7};
        for (int sheet = 0; sheet < 3; sheet++) {
            int of = sheet;
            EDGES.refusedForEach("put", outside[sheet], Edges::rich, (x, i) -> x.put(of, i, 1), OUTSIDE);
            EDGES.refusedForEach("item", outside[sheet], Edges::rich, (x, i) -> x.item(of, of, i), OUTSIDE);
            refused("the last item", x -> x.item(of, of, last[of]), lastItems[of]);
            RaisedTableaux x = Edges.after(Edges::rich);
            due("put in the first", x.put(sheet, 0, 8), 1);
            due("put in the last", x.put(sheet, last[sheet], 8), 1);
            due("the first", x.item(sheet, sheet, 0), 8);
            due("the last", x.item(sheet, sheet, last[sheet]), 8);
        }
    }

    /** "taken for one of a sort": -13, and BAD where there is no such sort. */
    private static void itemsOfASort() {
        int[] wrong = {-1, 3, MIN, MAX};
        EDGES.refusedForEach("item: sort", wrong, Edges::rich, (x, sort) -> x.item(0, sort, 0), BAD);
        EDGES.refusedForEach("item: sort, missing", wrong, Edges::rich, (x, sort) -> x.item(3, sort, 0), BAD);
        for (int sheet = 0; sheet < 3; sheet++) {
            for (int sort = BYTES; sort <= LONGS; sort++) {
                int of = sheet;
                int as = sort;
                if (of != as) {
                    refused("item: of another sort", x -> x.item(of, as, 0), UNLIKE);
                }
            }
        }
    }

    // ---- promise 30

    private static void outside(int i, int j, int n) {
        refused("copy " + n + " from " + i + " to " + j, x -> x.copy(0, i, 0, j, n), OUTSIDE);
        Edges.Past past = x -> {
            Edges.rich(x);
            x.sheet(3, BYTES, 6);
        };
        EDGES.refused("copy " + n + " from " + i + " to another's " + j, past, x -> x.copy(0, i, 3, j, n), OUTSIDE);
    }

    /** "outside if n or i is below 0, or both together are more than it has": either row. */
    private static void copiesFromOutside() {
        int[][] wrong = {
            {0, 0, 7}, {0, 0, -1}, {0, 0, MAX}, {0, 0, MIN}, {-1, 0, 1}, {0, -1, 1}, {-1, 0, 0}, {0, -1, 0},
            {6, 0, 1}, {0, 6, 1}, {7, 0, 0}, {0, 7, 0}, {1, 0, 6}, {0, 1, 6}, {3, 0, 4}, {0, 3, 4},
            {MAX, 0, 1}, {0, MAX, 1}, {MAX, 0, MAX}, {0, MAX, MAX}, {MAX, MAX, 2}, {MIN, 0, 1}, {0, MIN, 1},
            {MIN, 0, MIN}, {1, 0, MAX}, {0, 1, MAX}, {MAX, 0, 0}, {0, MAX, 0}, {7, 0, -1}, {0, 7, -1}
        };
        for (int[] numbers : wrong) {
            outside(numbers[0], numbers[1], numbers[2]);
        }
        Edges.Past shorter = x -> {
            Edges.rich(x);
            x.sheet(3, BYTES, 2);
        };
        EDGES.refused("the other is shorter", shorter, x -> x.copy(0, 0, 3, 0, 3), OUTSIDE);
        EDGES.refused("the first is shorter", shorter, x -> x.copy(3, 0, 0, 0, 3), OUTSIDE);
        EDGES.refused("no place from behind the end", shorter, x -> x.copy(3, 3, 0, 0, 0), OUTSIDE);
    }

    private static int bytesOf(RaisedTableaux x) {
        int number = 0;
        for (int i = 0; i < 6; i++) {
            number = number * 10 + x.item(0, BYTES, i);
        }
        return number;
    }

    private static void copied(int i, int j, int n, int bytes) {
        RaisedTableaux x = Edges.after(Edges::rich);
        due("copy " + n + " from " + i + " to " + j, x.copy(0, i, 0, j, n), n);
        due("is then", bytesOf(x), bytes);
    }

    /** "(or the same) ..., as they all were before". */
    private static void copiesWithinOneRow() {
        copied(0, 0, 6, 123409);
        copied(0, 1, 5, 112340);
        copied(1, 0, 5, 234099);
        copied(0, 2, 4, 121234);
        copied(2, 0, 4, 340909);
        copied(0, 5, 1, 123401);
        copied(5, 0, 1, 923409);
        copied(6, 6, 0, 123409);
        copied(0, 6, 0, 123409);
        copied(6, 0, 0, 123409);
    }

    /** "-13: of unlike sorts"; a copy of all places of the longest row. */
    private static void copiesToAnother() {
        for (int from = 0; from < 3; from++) {
            for (int to = 0; to < 3; to++) {
                int of = from;
                int other = to;
                if (of != other) {
                    refused("copy: unlike", x -> x.copy(of, 0, other, 0, 1), UNLIKE);
                    refused("copy: unlike, none", x -> x.copy(of, 0, other, 0, 0), UNLIKE);
                }
            }
        }
        RaisedTableaux x = Edges.after(Edges::rich);
        x.sheet(3, CHARS, 40);
        due("copy all forty", x.copy(1, 0, 3, 0, 40), 40);
        due("the first", x.item(3, CHARS, 0), 3);
        due("the last", x.item(3, CHARS, 39), 65535);
        x.sheet(3, LONGS, 1);
        due("copy a long", x.copy(2, 2, 3, 0, 1), 1);
        due("below 0", x.item(3, LONGS, 0), -7);
        x.sheet(3, LONGS, 0);
        due("none to none", x.copy(2, 3, 3, 0, 0), 0);
        due("one to none", x.copy(2, 0, 3, 0, 1), OUTSIDE);
    }

    // ---- promises 31 and 32

    /** "from place i on"; -12, -13. */
    private static void laysAtTheEnds() {
        RaisedTableaux x = Edges.after(Edges::rich);
        due("six in six places", x.lay(0, 0, 0), 6);
        due("as read", bytesOf(x), 213142);
        due("six at the end of forty", x.lay(1, 1, 34), 6);
        due("the place ahead", x.item(1, CHARS, 33), 0);
        due("the first of them", x.item(1, CHARS, 34), 4);
        due("the last of them", x.item(1, CHARS, 39), 2);
        due("none behind the last", x.lay(2, 0, 6), 0);
        due("none of a tableau behind the last", x.lay(3, 1, 40), 0);
        int[] outside = {1, 6, -1, MIN, MAX};
        EDGES.refusedForEach("lay outside", outside, Edges::rich, (y, i) -> y.lay(0, 0, i), OUTSIDE);
        int[] outsideOfChars = {35, 40, -1, MIN, MAX};
        EDGES.refusedForEach("lay outside", outsideOfChars, Edges::rich, (y, i) -> y.lay(1, 1, i), OUTSIDE);
        int[] outsideForNone = {7, -1, MIN, MAX};
        EDGES.refusedForEach("lay none outside", outsideForNone, Edges::rich, (y, i) -> y.lay(2, 0, i), OUTSIDE);
        refused("lay to longs", y -> y.lay(4, 2, 0), UNLIKE);
        refused("lay none to longs", y -> y.lay(2, 2, 0), UNLIKE);
    }

    /** "the k (0 to 6) numbers of a row ... from i on". */
    private static void takesOf0To6() {
        int[] reads = {0, 1, 12, 123, 1234};
        for (int k = 0; k <= 4; k++) {
            RaisedTableaux x = Edges.after(Edges::rich);
            due("take " + k, x.take(0, 0, k, 1), reads[k]);
            due("is a word", x.taken(1, 0), k);
        }
        RaisedTableaux x = Edges.after(Edges::rich);
        x.lay(0, 0, 0);
        due("take six", x.take(0, 0, 6, 5), 213142);
        due("take the last", x.take(0, 5, 1, 5), 2);
        due("take none from behind the last", x.take(0, 6, 0, 5), 0);
        due("is a thing", x.of(5, 0), 0);
        int[] wrong = {-1, 7, MIN, MAX};
        EDGES.refusedForEach("take: k", wrong, Edges::rich, (y, k) -> y.take(0, 0, k, 0), BAD);
        int[] outside = {5, 6, 7, -1, MIN, MAX};
        EDGES.refusedForEach("take outside", outside, Edges::rich, (y, i) -> y.take(0, i, 2, 0), OUTSIDE);
        int[] outsideForNone = {7, -1, MIN, MAX};
        EDGES.refusedForEach("take none outside", outsideForNone, Edges::rich, (y, i) -> y.take(0, i, 0, 0), OUTSIDE);
        refused("take of longs", y -> y.take(2, 0, 1, 0), UNLIKE);
        refused("take none of longs", y -> y.take(2, 0, 0, 0), UNLIKE);
    }

    /** "BAD: a number that is no LETTER". */
    private static void takesOfLettersAlone() {
        for (int n = 2; n <= 5; n++) {
            int[] wrong = {0, n + 1, -1, 9, 127, -128};
            for (int sheet = BYTES; sheet <= CHARS; sheet++) {
                int sort = sheet;
                int letters = n;
                Edges.Past past = x -> {
                    x.letters(letters);
                    x.word(0, 21);
                    x.sheet(0, sort, 3);
                    x.put(0, 0, letters);
                    x.put(0, 1, 1);
                };
                due("the letter n", Edges.after(past).take(0, 0, 2, 0), n * 10 + 1);
                for (int number : wrong) {
                    Edges.Past with = x -> {
                        past.happen(x);
                        x.put(0, 2, number);
                    };
                    EDGES.refused("no letter: " + number, with, x -> x.take(0, 0, 3, 0), BAD);
                    EDGES.refused("no letter: " + number, with, x -> x.take(0, 2, 1, 5), BAD);
                }
            }
        }
        RaisedTableaux x = new RaisedTableaux();
        x.sheet(0, BYTES, 1);
        x.sheet(1, CHARS, 1);
        x.put(0, 0, 258);
        x.put(1, 0, 258);
        due("of 258 a byte has 2", x.take(0, 0, 1, 0), 2);
        due("a char has all", x.take(1, 0, 1, 0), BAD);
        x.put(1, 0, 65538);
        due("of 65538 a char has 2", x.take(1, 0, 1, 0), 2);
    }

    // ---- promises 33 to 35

    /** what is 0 to 3. */
    private static void manyIsAsked0To3() {
        int[] wrong = {-1, 4, MIN, MAX};
        EDGES.refusedForEach("many: what", wrong, Edges::rich, RaisedTableaux::many, BAD);
        int[] ofRich = {4, 31, 14, 4};
        for (int what = 0; what <= 3; what++) {
            int asked = what;
            refused("many", x -> x.many(asked), ofRich[what]);
        }
        RaisedTableaux x = new RaisedTableaux();
        for (int slot = 0; slot <= 5; slot++) {
            x.word(slot, 123123);
        }
        due("all slots", x.many(1), 63);
        due("six of six", x.many(2), 36);
        Edges.tell(x, " ".repeat(60));
        due("a full tape", x.many(3), 60);
    }

    /** "NONE: nothing is kept". */
    private static void nothingIsKept() {
        EDGES.refused("nothing is kept", x -> {
            x.letters(5);
            x.word(1, 54);
            x.seed(9);
            x.worth(5, 9);
            Edges.tell(x, "12");
        }, RaisedTableaux::again, NONE);
        RaisedTableaux x = new RaisedTableaux();
        due("a new object is kept", x.keep(), 1);
        x.letters(2);
        x.word(0, 12);
        due("and comes again", x.again(), 0);
        due("with its n", x.many(0), 3);
        due("and its bare slots", x.many(1), 0);
    }

    /** "what was kept latest (which stays)". */
    private static void theLatestStays() {
        RaisedTableaux x = Edges.after(Edges::rich);
        due("keep once more", x.keep(), 1);
        x.letters(2);
        x.seed(1);
        for (int times = 0; times < 3; times++) {
            due("the latest", x.again(), 14);
            due("n", x.many(0), 4);
            due("slots", x.many(1), 31);
            due("a tableau's row", x.row(1, 2), 4);
            due("z", x.seed(times), 77);
            due("worths", x.worth(4, times), 14);
            x.act(0, 5, 0, 0);
            x.act(1, 5, 0, 1);
            x.bare(4);
            x.lot(5, 6);
        }
        due("keep of what was changed", x.keep(), 1);
        due("it is the latest then", x.again(), 18);
    }

    /** "SLOTS, WORTHS": from the first of them to the last. */
    private static void allSlotsAndWorthsAreKept() {
        RaisedTableaux x = Edges.withLetters(5);
        for (int letter = 1; letter <= 5; letter++) {
            x.worth(letter, 90 + letter);
            x.word(letter, 111 * letter);
        }
        Edges.told(x, 0, "11/2/3/4/5");
        x.keep();
        for (int letter = 1; letter <= 5; letter++) {
            x.worth(letter, 0);
        }
        x.letters(2);
        due("letters of all things", x.again(), 6 + 5 * 3);
        due("the tableau in the first slot", x.row(0, 4), 5);
        for (int letter = 1; letter <= 5; letter++) {
            due("a worth", x.worth(letter, 0), 90 + letter);
            due("a word", x.of(letter, 2), 111 * letter);
        }
    }

    /** "n, SLOTS, WORTHS, z are kept": the tape and sheets are not. */
    private static void whatIsNotKept() {
        RaisedTableaux x = Edges.after(Edges::rich);
        x.keep();
        Edges.tell(x, " ");
        x.put(0, 0, 7);
        x.sheet(1, -1, 0);
        x.sheet(3, LONGS, 2);
        x.again();
        due("the tape goes on", x.many(3), 5);
        due("a place", x.item(0, BYTES, 0), 7);
        due("a missing sheet", x.item(1, CHARS, 0), NOTHING);
        due("a new sheet", x.item(3, LONGS, 1), 0);
    }

    private static void sheets() {
        sheetsOf0To40();
        missingWhateverN();
        newRowsAreAll0();
        lowestBits();
        placesOfPutAndItem();
        itemsOfASort();
        copiesFromOutside();
        copiesWithinOneRow();
        copiesToAnother();
    }

    public static void main(String[] args) {
        anySeed();
        drawsWrapAround();
        lotsOf0To6();
        sheets();
        laysAtTheEnds();
        takesOf0To6();
        takesOfLettersAlone();
        manyIsAsked0To3();
        nothingIsKept();
        theLatestStays();
        allSlotsAndWorthsAreKept();
        whatIsNotKept();
        EDGES.end();
    }
}
