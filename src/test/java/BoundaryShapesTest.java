/** The boundary cases of what is inserted, of shapes, contents and worths: promises 18 to 24. */
public final class BoundaryShapesTest {
    private static final Edges EDGES = new Edges();
    private static final int BAD = Edges.BAD, OVER = Edges.OVER;
    private static final int OUTSIDE = Edges.OUTSIDE;
    private static final int MIN = Edges.MIN, MAX = Edges.MAX;

    /** For each n the greatest shapes: of n rows, or of 6 letters. Place 0 is for n = 2. */
    private static final int[][] SHAPES = {
        {0, 1, 6, 11, 33, 42, 51, 21},
        {0, 1, 6, 111, 33, 42, 51, 222, 321, 411},
        {0, 1, 6, 1111, 33, 222, 2211, 3111, 321},
        {0, 1, 6, 11111, 33, 222, 2211, 21111, 3111}
    };
    /** For each n what is no shape: a row too many, a letter too many, a longer row behind. */
    private static final int[][] NO_SHAPES = {
        {7, 9, 111, 211, 43, 52, 61, 34, 12, 16, 66},
        {7, 9, 1111, 2111, 43, 322, 331, 34, 12, 112, 121, 212, 132},
        {7, 9, 11111, 21111, 43, 2221, 4111, 34, 12, 1112, 2122, 1211},
        {7, 9, 111111, 211111, 43, 22111, 31111, 34, 12, 11112, 21112, 12111}
    };
    /** By no n: below 0, far too great, a row without letters. */
    private static final int[] NEVER_SHAPES = {-1, -11, MIN, MAX, 1000000000, 10, 20, 60, 110, 101, 201};

    private static void due(String sentence, int got, int want) {
        EDGES.due(sentence, got, want);
    }

    private static void refused(String sentence, Edges.Call call, int want) {
        EDGES.refused(sentence, Edges::rich, call, want);
    }

    // ---- promises 18 to 20

    private static void inserted(int word, int... rows) {
        RaisedTableaux x = Edges.withLetters(5);
        x.word(0, word);
        due("rows of " + word, x.insert(0, 5), rows.length);
        for (int r = 0; r < rows.length; r++) {
            due("row " + r + " of " + word, x.row(5, r), rows[r]);
        }
        due("no row more of " + word, x.row(5, rows.length), OUTSIDE);
        due("the word stays", x.of(0, 2), word);
    }

    /** "the first one that is greater", "it stands behind all, if there is none such". */
    private static void insertionsEdges() {
        inserted(0);
        inserted(1, 1);
        inserted(11, 11);
        inserted(12, 12);
        inserted(21, 1, 2);
        inserted(221, 12, 2);
        inserted(211, 11, 2);
        inserted(11221, 1112, 2);
        inserted(133442, 12344, 3);
        inserted(111111, 111111);
        inserted(54321, 1, 2, 3, 4, 5);
        inserted(543215, 15, 2, 3, 4, 5);
        inserted(554433, 33, 44, 55);
    }

    /** "comes into a SLOT (that one, too)"; of none there are no rows. */
    private static void insertIntoSlots() {
        RaisedTableaux x = Edges.after(Edges::rich);
        due("a word of none", x.insert(2, 2), 0);
        due("is a tableau of none", x.taken(2, 1), 0);
        due("a tableau of none", x.insert(3, 1), 0);
        due("leaves no row of what was there", x.row(1, 0), OUTSIDE);
        due("in its own slot", x.insert(0, 0), 2);
        due("is a tableau", x.taken(0, 1), 6);
        due("into the last slot", x.insert(0, 5), 2);
        due("a tableau comes as it is", x.of(5, 2), x.of(0, 2));
    }

    /** "-12": a row of RECORD that is not there. */
    private static void rowsOfARecord() {
        RaisedTableaux x = Edges.after(Edges::rich);
        due("the highest", x.record(0, 0), 135);
        due("the lowest", x.record(0, 1), 246);
        int[] outside = {-1, 2, 6, MIN, MAX};
        EDGES.refusedForEach("record outside", outside, Edges::rich, (y, r) -> y.record(0, r), OUTSIDE);
        int[] ofNone = {-1, 0, 1};
        EDGES.refusedForEach("record of a word of none", ofNone, Edges::rich, (y, r) -> y.record(2, r), OUTSIDE);
        EDGES.refusedForEach("record of a tableau of none", ofNone, Edges::rich, (y, r) -> y.record(3, r), OUTSIDE);
        // 4; 2 for 4; 3 behind 2; 1 for 2, which goes for 4; 1 for 3, which stands behind 2; 2 behind all
        due("a tableau's first row", x.record(1, 0), 136);
        due("a tableau's second row", x.record(1, 1), 25);
        due("a tableau's third row", x.record(1, 2), 4);
        due("a tableau has no fourth", x.record(1, 3), OUTSIDE);
        x.letters(5);
        x.word(0, 543211);
        due("the fifth row", x.record(0, 4), 5);
        due("no sixth", x.record(0, 5), OUTSIDE);
        x.word(0, 111111);
        due("six in a row", x.record(0, 0), 123456);
    }

    /** ALIKE of things of none, of a thing and itself. */
    private static void alikeOfNone() {
        refused("a word and a tableau of none", x -> x.alike(2, 3), 1);
        refused("a tableau and a word of none", x -> x.alike(3, 2), 1);
        refused("with itself", x -> x.alike(0, 0), 1);
        refused("one of none", x -> x.alike(2, 4), 0);
        refused("of the same letters in other rows", x -> x.alike(0, 1), 0);
        RaisedTableaux x = Edges.after(Edges::rich);
        x.word(5, 423112);
        due("a tableau and what it reads", x.alike(1, 5), 1);
        x.word(5, 1);
        due("one letter less", x.alike(4, 5), 0);
        due("one letter more", x.alike(5, 4), 0);
        x.word(4, 2);
        due("another letter alone", x.alike(5, 4), 0);
        x.word(4, 34);
        x.word(5, 24);
        due("another first letter", x.alike(4, 5), 0);
        x.word(5, 33);
        due("another last letter", x.alike(4, 5), 0);
    }

    // ---- shapes

    private interface OfShape {
        int on(RaisedTableaux x, int shape);
    }

    private static void shapesAreTaken(String call, OfShape of) {
        for (int n = 2; n <= 5; n++) {
            for (int shape : SHAPES[n - 2]) {
                int answer = of.on(Edges.withLetters(n), shape);
                due(call + ": shape " + shape + " of " + n + " letters is one", answer < 0 ? answer : 0, 0);
            }
        }
    }

    private static void othersAreRefused(String call, OfShape of) {
        for (int n = 2; n <= 5; n++) {
            int letters = n;
            Edges.Past past = x -> x.letters(letters);
            String sentence = call + ": no shape of " + n + " letters";
            EDGES.refusedForEach(sentence, NO_SHAPES[n - 2], past, of::on, BAD);
        }
        EDGES.refusedForEach(call + ": never a shape", NEVER_SHAPES, Edges::rich, of::on, BAD);
    }

    /** "none longer than the one ahead, told as digits (at most n of them, 6 together at most; 0: none)". */
    private static void shapesOfAllCalls() {
        shapesAreTaken("count", (x, shape) -> x.count(shape, 0));
        othersAreRefused("count", (x, shape) -> x.count(shape, 0));
        shapesAreTaken("together, the first", (x, shape) -> x.together(shape, 0, 0));
        othersAreRefused("together, the first", (x, shape) -> x.together(shape, 0, 0));
        shapesAreTaken("together, the second", (x, shape) -> x.together(0, shape, 0));
        othersAreRefused("together, the second", (x, shape) -> x.together(0, shape, 0));
        shapesAreTaken("together, the third", (x, shape) -> x.together(0, 0, shape));
        othersAreRefused("together, the third", (x, shape) -> x.together(0, 0, shape));
        shapesAreTaken("worthOf", RaisedTableaux::worthOf);
        othersAreRefused("worthOf", RaisedTableaux::worthOf);
    }

    // ---- promise 21

    /** "a CONTENT (n digits, the first LETTER's highest)", "also one of more than 6 LETTERS". */
    private static void contents() {
        int[][] wrong = {
            {-1, MIN, MAX, 100, 110, 70, 7, 61, 16, 34, 99},
            {-1, MIN, MAX, 1000, 1110, 700, 7, 610, 601, 16, 322, 999},
            {-1, MIN, MAX, 10000, 11110, 7000, 7, 6100, 6001, 16, 2221, 9999},
            {-1, MIN, MAX, 100000, 111111, 70000, 7, 60001, 61000, 16, 11113, 99999}
        };
        for (int n = 2; n <= 5; n++) {
            int letters = n;
            Edges.Past past = x -> x.letters(letters);
            String sentence = "no content of " + n + " letters";
            EDGES.refusedForEach(sentence, wrong[n - 2], past, (x, content) -> x.count(6, content), BAD);
            EDGES.refusedForEach(sentence, wrong[n - 2], past, (x, content) -> x.count(0, content), BAD);
            int power = (int) Math.pow(10, n - 1);
            RaisedTableaux x = Edges.after(past);
            due("six of the first", x.count(6, 6 * power), 1);
            due("six of the last", x.count(6, 6), 1);
            due("five and one", x.count(51, 5 * power + 1), 1);
            due("three and three", x.count(33, 3 * power + 3), 1);
            due("three and three in one row", x.count(6, 3 * power + 3), 1);
            due("six of one in two rows", x.count(51, 6), 0);
        }
        due("each and the last twice", Edges.withLetters(5).count(21111, 11112), 1);
        due("each and the first twice", Edges.withLetters(5).count(6, 21111), 1);
    }

    /** "(0, if one has more LETTERS than the other one.)" */
    private static void countOfUnlikeSizes() {
        refused("the content has more", x -> x.count(5, 6000), 0);
        refused("the shape has more", x -> x.count(6, 5000), 0);
        refused("the content alone has any", x -> x.count(0, 1), 0);
        refused("the shape alone has any", x -> x.count(1, 0), 0);
        refused("neither has any", x -> x.count(0, 0), 1);
        refused("a column with one more", x -> x.count(1111, 1112), 0);
        refused("a column with one less", x -> x.count(1111, 1110), 0);
        refused("a column", x -> x.count(1111, 1111), 1);
        refused("BAD all the same: the shape", x -> x.count(12, 6000), BAD);
        refused("BAD all the same: the content", x -> x.count(1, 7000), BAD);
    }

    // ---- promise 22

    /** "the first two have more than 6 LETTERS together". */
    private static void togetherHave6() {
        refused("3 and 3", x -> x.together(3, 3, 6), 1);
        refused("6 and none", x -> x.together(6, 0, 6), 1);
        refused("none and 6", x -> x.together(0, 6, 6), 1);
        refused("51 and none", x -> x.together(51, 0, 51), 1);
        refused("5 and 1", x -> x.together(5, 1, 51), 1);
        refused("6 and 1", x -> x.together(6, 1, 6), BAD);
        refused("1 and 6", x -> x.together(1, 6, 61), BAD);
        refused("33 and 1", x -> x.together(33, 1, 33), BAD);
        refused("4 and 3", x -> x.together(4, 3, 0), BAD);
        refused("222 and 222", x -> x.together(222, 222, 222), BAD);
        refused("a third that is none, too", x -> x.together(6, 1, 7), BAD);
    }

    /** A third one of another size, or one that the first does not fit in: there are none. */
    private static void togetherOfOtherSizes() {
        refused("none of none", x -> x.together(0, 0, 0), 1);
        refused("none of none in one", x -> x.together(0, 0, 1), 0);
        refused("one in none", x -> x.together(1, 0, 0), 0);
        refused("one in none the other way", x -> x.together(0, 1, 0), 0);
        refused("a third of fewer", x -> x.together(3, 3, 5), 0);
        refused("a third of more", x -> x.together(3, 2, 6), 0);
        refused("a third in which the first is not", x -> x.together(3, 1, 22), 0);
        refused("a third in which the second is not", x -> x.together(1, 3, 22), 0);
        refused("a column in rows", x -> x.together(111, 1, 31), 0);
        refused("a column made longer", x -> x.together(111, 1, 1111), 1);
        refused("the last row that there can be", x -> x.together(11, 11, 1111), 1);
        RaisedTableaux five = Edges.withLetters(5);
        due("a fifth row", five.together(1111, 1, 11111), 1);
        due("a fifth row that stays", five.together(11111, 1, 21111), 1);
        due("a fifth row that the third has not", five.together(11111, 0, 2111), 0);
        due("a fifth row that the second has", five.together(1, 11111, 21111), 1);
    }

    /** "make a WORD that can't be raised": the READ of the first one stands behind. */
    private static void togetherCanNotBeRaised() {
        // of 12 21 the last two are struck out, and the first 2 is left
        refused("12 21 can be raised", x -> x.together(11, 2, 22), 0);
        refused("21 11 can't", x -> x.together(2, 11, 31), 1);
        refused("32 11 can't", x -> x.together(2, 11, 211), 1);
        refused("two ways", x -> x.together(21, 21, 321), 2);
        refused("one way", x -> x.together(21, 21, 222), 1);
        refused("no way", x -> x.together(21, 21, 51), 0);
    }

    /** What one call was told is nothing to the next one. */
    private static void oneShapeBehindTheOther() {
        RaisedTableaux x = Edges.withLetters(5);
        due("long ones", x.together(111, 111, 21111), 1);
        due("short ones behind them", x.together(2, 2, 31), 1);
        due("none behind them", x.together(0, 0, 0), 1);
        due("a long one behind none", x.together(0, 21111, 21111), 1);
        due("a count behind it", x.count(2, 10001), 1);
        due("worth behind it", x.worthOf(2), 15);
        due("a refused one", x.together(111, 12, 21), BAD);
        due("a count behind that", x.count(11, 11000), 1);
        due("a refused content", x.count(2, 90000), BAD);
        due("worth behind that", x.worthOf(11), 10);
        due("one row behind it", x.together(1, 1, 2), 1);
    }

    // ---- promises 23 and 24

    /** "WORTHS of LETTERS: 0 to 99 (1 at first)". */
    private static void worths() {
        for (int n = 2; n <= 5; n++) {
            int letters = n;
            Edges.Past past = x -> x.letters(letters);
            for (int letter = 1; letter <= n; letter++) {
                RaisedTableaux x = Edges.after(past);
                due("1 at first", x.worth(letter, 0), 1);
                due("0 is a worth", x.worth(letter, 99), 0);
                due("99 is a worth", x.worth(letter, 99), 99);
            }
            int[] wrong = {0, n + 1, 6, -1, MIN, MAX};
            EDGES.refusedForEach("worth: no letter", wrong, past, (x, letter) -> x.worth(letter, 5), BAD);
        }
        int[] wrong = {-1, 100, MIN, MAX};
        for (int letter = 1; letter <= 4; letter++) {
            int of = letter;
            EDGES.refusedForEach("worth: not 0 to 99", wrong, Edges::rich, (x, v) -> x.worth(of, v), BAD);
        }
    }

    private static RaisedTableaux withWorths(int... worths) {
        return Edges.after(x -> {
            x.letters(worths.length);
            for (int letter = 1; letter <= worths.length; letter++) {
                x.worth(letter, worths[letter - 1]);
            }
        });
    }

    /** "OVER: it is above 2147483647". */
    private static void worthsThatAreTooGreat() {
        // no worths make 2147483647 itself; these are the next that some make
        due("8 below the greatest", withWorths(98, 92, 89, 31, 23).worthOf(31), 2147483639);
        due("16 below the greatest", withWorths(91, 90, 88, 72, 20).worthOf(4), 2147483631);
        due("1 above the greatest", withWorths(64, 64).worthOf(32), OVER);
        due("1 above, whatever letters", withWorths(0, 64, 0, 64, 0).worthOf(32), OVER);
        due("the greatest of all", withWorths(99, 99, 99, 99, 99).worthOf(42), OVER);
        due("and the other shape of as many", withWorths(99, 99, 99, 99, 99).worthOf(51), OVER);
        // 64 to the 6th has nothing in its lowest 32 bits
        due("all of its lowest bits are 0", withWorths(64, 0).worthOf(6), OVER);
        due("five times 64 to the 6th", withWorths(64, 64).worthOf(51), OVER);
        EDGES.refused("OVER", x -> {
            Edges.rich(x);
            x.worth(1, 99);
            x.worth(2, 99);
        }, x -> x.worthOf(6), OVER);
    }

    /** WORTH of the shape of none, and of shapes of letters that are worth 0. */
    private static void worthsOfNone() {
        due("none has one tableau", new RaisedTableaux().worthOf(0), 1);
        due("none, whatever worths", withWorths(0, 0, 0, 0, 0).worthOf(0), 1);
        due("none, whatever worths", withWorths(99, 99).worthOf(0), 1);
        due("letters worth 0", withWorths(0, 0, 0, 0, 0).worthOf(1), 0);
        due("one letter worth 0", withWorths(0, 3).worthOf(6), 729);
        due("a column of all with one worth 0", withWorths(1, 2, 3, 4, 0).worthOf(11111), 0);
        due("a column of all", withWorths(1, 2, 3, 4, 5).worthOf(11111), 120);
        due("greatest column", withWorths(99, 99).worthOf(11), 9801);
        due("each worth 1: how many there are", Edges.withLetters(5).worthOf(51), 420);
        due("each worth 1: how many there are", Edges.withLetters(2).worthOf(6), 7);
        due("each worth 1: how many there are", Edges.withLetters(2).worthOf(33), 1);
    }

    public static void main(String[] args) {
        insertionsEdges();
        insertIntoSlots();
        rowsOfARecord();
        alikeOfNone();
        shapesOfAllCalls();
        contents();
        countOfUnlikeSizes();
        togetherHave6();
        togetherOfOtherSizes();
        togetherCanNotBeRaised();
        oneShapeBehindTheOther();
        worths();
        worthsThatAreTooGreat();
        worthsOfNone();
        EDGES.end();
    }
}
