/** The boundary cases of letters, words, the tape and tableaux: promises 1 to 9. */
public final class BoundaryThingsTest {
    private static final Edges EDGES = new Edges();
    private static final int BAD = Edges.BAD, FULL = Edges.FULL, NONE = Edges.NONE;
    private static final int NOTHING = Edges.NOTHING, OUTSIDE = Edges.OUTSIDE, UNLIKE = Edges.UNLIKE;
    private static final int MIN = Edges.MIN, MAX = Edges.MAX;

    private static void due(String sentence, int got, int want) {
        EDGES.due(sentence, got, want);
    }

    private static void refused(String sentence, Edges.Call call, int want) {
        EDGES.refused(sentence, Edges::rich, call, want);
    }

    // ---- promise 1

    /** "LETTERS 1 to 3, nothing in SLOTS", and what else is told "at first". */
    private static void aNewObject() {
        RaisedTableaux x = new RaisedTableaux();
        due("3 at first", x.many(0), 3);
        due("no slot holds a thing at first", x.many(1), 0);
        due("no letters at first", x.many(2), 0);
        due("no bytes at first", x.many(3), 0);
        due("nothing is kept at first", x.again(), NONE);
        due("z is 1 at first", x.seed(1), 1);
        due("3 is a letter at first", x.word(0, 3), 1);
        due("4 is none at first", x.word(0, 4), BAD);
        x.letters(5);
        for (int letter = 1; letter <= 5; letter++) {
            due("worth 1 at first", x.worth(letter, 1), 1);
        }
    }

    // ---- promise 2

    /** "n is 2 to 5". */
    private static void nIs2To5() {
        for (int n = 2; n <= 5; n++) {
            RaisedTableaux x = new RaisedTableaux();
            due("n is 2 to 5: what it was", x.letters(n), 3);
            due("n is 2 to 5: taken", x.many(0), n);
            due("n is 2 to 5: what it is", x.letters(n), n);
        }
        int[] wrong = {1, 6, 0, -1, -3, MIN, MAX};
        EDGES.refusedForEach("n is 2 to 5", wrong, Edges::rich, RaisedTableaux::letters, BAD);
    }

    private static RaisedTableaux withSixThings() {
        return Edges.after(x -> {
            for (int slot = 0; slot <= 4; slot++) {
                x.word(slot, 123);
            }
            Edges.told(x, 5, "1/2/3");
        });
    }

    /** "if that is another one, all SLOTS hold nothing then". */
    private static void anotherNEmptiesAllSlots() {
        RaisedTableaux x = withSixThings();
        due("the same n", x.letters(3), 3);
        due("leaves all slots", x.many(1), 63);
        due("and their letters", x.many(2), 18);
        due("another n", x.letters(2), 3);
        due("leaves no slot", x.many(1), 0);
        due("and no letters", x.many(2), 0);
        for (int slot = 0; slot <= 5; slot++) {
            due("nothing in slot " + slot, x.of(slot, 1), NOTHING);
        }
        x.letters(3);
        due("n as it was brings nothing back", x.many(1), 0);
        x = withSixThings();
        x.letters(4);
        due("a greater n leaves no slot either", x.many(1), 0);
    }

    /** Only slots are emptied by another n. */
    private static void anotherNLeavesTheRest() {
        RaisedTableaux x = Edges.after(Edges::rich);
        x.letters(2);
        due("the tape stays", x.many(3), 4);
        due("z stays", x.seed(0), 77);
        due("worths of letters stay", x.worth(2, 0), 12);
        due("sheets stay", x.item(0, 0, 5), 9);
        x.letters(4);
        due("worths above n stay", x.worth(4, 0), 14);
        due("what is kept stays", x.again(), 8);
    }

    // ---- promise 3

    /** "A THING has 6 LETTERS at most (perhaps none)". */
    private static void aWordHas6LettersAtMost() {
        int[] digits = {0, 1, 12, 121, 1211, 21211, 121212};
        for (int letters = 0; letters <= 6; letters++) {
            RaisedTableaux x = new RaisedTableaux();
            due("a word of " + letters, x.word(5, digits[letters]), letters);
            due("it has so many", x.of(5, 1), letters);
            due("it reads so", x.of(5, 2), digits[letters]);
        }
        int[] wrong = {1111111, 1212121, 11111111, 1111111111, MAX};
        EDGES.refusedForEach("6 letters at most", wrong, Edges::rich, (x, d) -> x.word(0, d), BAD);
        int[] below = {-1, -12, -121212, MIN};
        EDGES.refusedForEach("no number below 0", below, Edges::rich, (x, d) -> x.word(0, d), BAD);
    }

    /** "told by digits (0: of none)": it is a thing all the same. */
    private static void aWordOfNoneIsAThing() {
        RaisedTableaux x = new RaisedTableaux();
        x.word(3, 12);
        due("0: of none", x.word(3, 0), 0);
        due("the slot holds it", x.many(1), 8);
        due("it is a word", x.of(3, 0), 0);
        due("of none", x.of(3, 1), 0);
        due("reads 0", x.of(3, 2), 0);
        due("has the content 0", x.of(3, 3), 0);
        due("has no rows", x.of(3, 4), 0);
        due("bare: it held a thing", x.bare(3), 1);
    }

    /** "LETTERS are 1 to n". */
    private static void wordsAreOfLetters1ToN() {
        for (int n = 2; n <= 5; n++) {
            int last = n;
            Edges.Past past = x -> {
                x.letters(last);
                x.word(0, 12);
            };
            due("the letter n", Edges.after(past).word(0, n), 1);
            due("n six times", Edges.after(past).word(0, n * 111111), 6);
            EDGES.refused("a letter n + 1", past, x -> x.word(0, last + 1), BAD);
            EDGES.refused("n + 1 as the first", past, x -> x.word(0, last * 10 + 11), BAD);
            EDGES.refused("n + 1 in the middle", past, x -> x.word(0, 112 + last * 10), BAD);
            EDGES.refused("n + 1 as the last", past, x -> x.word(0, 111112 + last - 1), BAD);
        }
        int[] wrong = {10, 101, 110, 100000, 9, 19};
        EDGES.refusedForEach("0 and 9 are no letters", wrong, Edges::rich, (x, d) -> x.word(0, d), BAD);
    }

    /** "A SLOT holds a WORD": whatever it held; "how many rows (of a WORD 0)". */
    private static void aWordInPlaceOfATableau() {
        isAWordOfOne("word", x -> x.word(1, 4), 4);
        // 51365 is drawn from 77
        isAWordOfOne("lot", x -> x.lot(1, 1), 2);
        isAWordOfOne("take", x -> x.take(0, 3, 1, 1), 4);
        isAWordOfOne("act", x -> {
            x.word(4, 3);
            return x.act(4, 1, 3, 1);
        }, 4);
    }

    private static void isAWordOfOne(String call, Edges.Call made, int read) {
        RaisedTableaux x = Edges.after(Edges::rich);
        // a tableau was moved right ahead of it
        x.act(1, 5, 0, 5);
        made.on(x);
        due(call + " makes no tableau", x.row(1, 0), UNLIKE);
        due(call + " makes no rows", x.of(1, 4), 0);
        due(call + " makes one letter", x.of(1, 1), 1);
        due(call + " makes its own letter alone", x.of(1, 2), read);
    }

    // ---- promise 4

    /** "BAD: n is not 1 to 8". */
    private static void feedTakes1To8() {
        for (int n = 1; n <= 8; n++) {
            due("1 to 8 bytes", new RaisedTableaux().feed(0, n), n);
        }
        int[] wrong = {0, 9, -1, -8, 64, MIN, MAX};
        EDGES.refusedForEach("n is not 1 to 8", wrong, Edges::rich, (x, n) -> x.feed(0x3131L, n), BAD);
    }

    private static RaisedTableaux withBytes(int bytes) {
        return Edges.after(x -> Edges.tell(x, " ".repeat(bytes)));
    }

    /** "THE TAPE takes bytes, 60 at most". FULL. */
    private static void theTapeTakes60() {
        due("the last eight", withBytes(52).feed(0, 8), 60);
        due("the last one", withBytes(59).feed(0, 1), 60);
        for (int n = 1; n <= 8; n++) {
            int more = n;
            Edges.Past past = x -> {
                Edges.richButForTape(x);
                Edges.tell(x, "1" + " ".repeat(60 - more));
            };
            EDGES.refused("one more than 60", past, x -> x.feed(0x3131313131313131L, more), FULL);
        }
        Edges.Past full = x -> Edges.tell(x, "1" + " ".repeat(58) + "2");
        for (int n = 1; n <= 8; n++) {
            int more = n;
            EDGES.refused("a full tape", full, x -> x.feed(0x3131313131313131L, more), FULL);
        }
        RaisedTableaux x = Edges.after(full);
        due("the sixtieth is read", x.tableau(0), 2);
        due("it takes bytes again", x.feed(0x33, 1), 1);
        due("from the first place on", x.tableau(0), 1);
        due("alone", x.of(0, 2), 3);
    }

    /** "The n lowest bytes of a number ..., the lowest first". */
    private static void feedTakesTheLowestFirst() {
        RaisedTableaux x = new RaisedTableaux();
        x.feed(0x3332323131311112L, 1);
        due("the lowest alone", x.tableau(0), -100);
        x.feed(0x7832L, 1);
        due("not the second", x.tableau(0), 1);
        x.feed(0x3333323231313131L, 4);
        x.feed(0x3332L, 2);
        due("one behind the other", x.tableau(0), 6);
        due("the lowest first", x.of(0, 2), 111123);
        x.feed(0x3320202020202020L, 8);
        due("the highest of eight", x.tableau(0), 1);
        due("comes last", x.of(0, 2), 3);
        x.feed(0xB131L, 2);
        due("a byte above 127 is none of the text's", x.tableau(0), -101);
        x.feed(-1L, 8);
        due("a number below 0", x.many(3), 8);
        due("has bytes 255", x.tableau(0), -100);
    }

    // ---- promise 5

    private static void told(int n, String text, int letters, int read) {
        RaisedTableaux x = Edges.withLetters(n);
        due("'" + text + "' is told", Edges.told(x, 0, text), letters);
        due("'" + text + "' reads", x.of(0, 2), read);
        due("'" + text + "' is a tableau", x.of(0, 0), 1);
        due("'" + text + "' is used up", x.many(3), 0);
    }

    private static void faulty(String sentence, int n, String text, int fault) {
        Edges.Past past = x -> {
            x.letters(n);
            x.word(0, 12);
            Edges.told(x, 1, "1/2");
        };
        EDGES.faulty(sentence, past, text, x -> x.tableau(1), -100 - fault);
    }

    /** "[ ROW { / ROW } ]": a text may tell none. */
    private static void aTableauOfNone() {
        told(3, "", 0, 0);
        told(3, " ", 0, 0);
        told(3, " ".repeat(60), 0, 0);
        RaisedTableaux x = Edges.after(Edges::richButForTape);
        due("none in place of a tableau", x.tableau(1), 0);
        due("is a tableau", x.of(1, 0), 1);
        due("has no rows", x.of(1, 4), 0);
        due("no first row", x.row(1, 0), OUTSIDE);
        due("in the last slot", x.tableau(5), 0);
        due("each slot holds one", x.many(1), 63);
    }

    /** "ROW: LETTER { LETTER }", "or the end ..., if more must come". */
    private static void aRowHasALetter() {
        told(3, "1/2", 2, 21);
        faulty("a row must come", 3, "1/", 2);
        faulty("a row must come behind blanks", 3, "1/   ", 5);
        faulty("a row must come ahead", 3, "/", 0);
        faulty("a row must come ahead", 3, "/1", 0);
        faulty("a row must come ahead, behind a blank", 3, "  /1", 2);
        faulty("a row must come between", 3, "1//2", 2);
        faulty("a row must come between blanks", 3, "1 / /2", 4);
        faulty("a row must come behind three", 3, "1/2/3/", 6);
        faulty("the end is the sixtieth place", 3, "1" + " ".repeat(58) + "/", 60);
    }

    /** "none longer than the one above it". */
    private static void noRowIsLonger() {
        told(3, "12/23", 4, 2312);
        told(3, "112/23", 5, 23112);
        told(3, "111/222", 6, 222111);
        faulty("a row that is longer by one", 3, "1/22", 3);
        faulty("a row of three below two", 3, "11/222", 5);
        faulty("a row longer than the last, not the first", 3, "11/2/33", 6);
    }

    /** "no LETTER is less than the one on its left". */
    private static void noLetterIsLessThanOnItsLeft() {
        told(5, "11", 2, 11);
        told(5, "122345", 6, 122345);
        faulty("less by one", 5, "21", 1);
        faulty("less than the one right on its left", 5, "1121", 3);
        faulty("less, behind blanks", 5, "5  4", 3);
        faulty("less in a row below", 5, "112/32", 5);
    }

    /** "each LETTER of a row is greater than that above it". */
    private static void eachIsGreaterThanAbove() {
        told(5, "1/2/3/4/5", 5, 54321);
        told(5, "13/24", 4, 2413);
        faulty("the same as above", 5, "1/1", 2);
        faulty("less than above", 5, "2/1", 2);
        faulty("the second is the same as above", 5, "13/23", 4);
        faulty("the same as above in the third row", 5, "1/2/2", 4);
    }

    /** "LETTERS are 1 to n", "one digit each". */
    private static void tableauxAreOfLetters1ToN() {
        for (int n = 2; n <= 5; n++) {
            told(n, "1" + n, 2, 10 + n);
            faulty("n + 1 is no letter", n, "1" + (n + 1), 1);
            faulty("0 is no letter", n, "0", 0);
            faulty("9 is no letter", n, "19", 1);
        }
        // the signs right ahead of and right behind the digits in the row of signs
        faulty("a stroke is no letter", 5, "1/2//", 4);
        faulty("a colon is no letter", 5, "1:", 1);
        faulty("no more than n rows can stand", 2, "1/2/2", 4);
        faulty("no more than n rows can stand", 5, "1/2/3/4/5/5", 10);
    }

    /** "a seventh one" is a fault: "A THING has 6 LETTERS at most". */
    private static void noSeventhLetter() {
        told(3, "111111", 6, 111111);
        told(3, "112/23/3", 6, 323112);
        told(3, "111/222", 6, 222111);
        told(5, "11/2/3/4/5", 6, 543211);
        faulty("a seventh in one row", 3, "1111111", 6);
        faulty("a seventh behind a blank", 3, "111111 2", 7);
        faulty("a seventh in a row of its own", 3, "111/222/3", 8);
        faulty("a seventh in the last row", 3, "111/22/33", 8);
        faulty("a stroke behind six, and no letter", 3, "111111/", 7);
    }

    /** "blanks (32) stand anywhere". */
    private static void onlyBlanksAreBlank() {
        told(3, " 1 1 / 2 ", 3, 211);
        told(3, " ".repeat(57) + "1/2", 2, 21);
        int[] others = {0, 9, 10, 13, 31, 33, 160};
        for (int other : others) {
            faulty("byte " + other + " is no blank", 3, "1" + (char) other + "2", 1);
        }
        faulty("no brackets", 3, "[1]", 0);
        faulty("no letters a to z", 3, "1 turn;", 2);
        faulty("no semicolon", 3, "12;", 2);
    }

    // ---- promises 6 to 9

    /** "1 if it held a THING, else 0". */
    private static void bareOfNothing() {
        refused("it held nothing", x -> x.bare(5), 0);
        RaisedTableaux x = Edges.after(Edges::rich);
        for (int slot = 0; slot <= 4; slot++) {
            due("it held a thing", x.bare(slot), 1);
            due("it holds nothing then", x.of(slot, 0), NOTHING);
            due("nothing is left to bare", x.bare(slot), 0);
        }
        due("all are bare", x.many(1), 0);
        due("no letters are left", x.many(2), 0);
    }

    /** what is 0 to 4. */
    private static void ofIsAsked0To4() {
        int[] wrong = {-1, 5, MIN, MAX};
        EDGES.refusedForEach("of: what", wrong, Edges::rich, (x, what) -> x.of(0, what), BAD);
        int[] ofWord = {0, 6, 213142, 2211, 0};
        int[] ofTableau = {1, 6, 423112, 2211, 3};
        int[] ofWordOfNone = {0, 0, 0, 0, 0};
        int[] ofTableauOfNone = {1, 0, 0, 0, 0};
        int[][] wanted = {ofWord, ofTableau, ofWordOfNone, ofTableauOfNone};
        for (int slot = 0; slot < 4; slot++) {
            for (int what = 0; what <= 4; what++) {
                int asked = what;
                int asks = slot;
                refused("of slot " + slot + ", " + what, x -> x.of(asks, asked), wanted[slot][what]);
            }
        }
    }

    /** "CONTENT: how often each LETTER 1, 2, .. n stands in it": n digits, the first highest. */
    private static void contentHasNDigits() {
        for (int n = 2; n <= 5; n++) {
            RaisedTableaux x = Edges.withLetters(n);
            x.word(0, 111111);
            due("six of the first", x.of(0, 3), 6 * (int) Math.pow(10, n - 1));
            x.word(0, n * 111111);
            due("six of the last", x.of(0, 3), 6);
        }
        RaisedTableaux x = Edges.withLetters(5);
        x.word(0, 543215);
        due("each once, the last twice", x.of(0, 3), 11112);
    }

    /** "0 is the highest"; -12: a row outside. */
    private static void rowsOfATableau() {
        due("the highest", Edges.after(Edges::rich).row(1, 0), 112);
        due("the lowest", Edges.after(Edges::rich).row(1, 2), 4);
        int[] outside = {-1, 3, 6, MIN, MAX};
        EDGES.refusedForEach("row outside", outside, Edges::rich, (x, r) -> x.row(1, r), OUTSIDE);
        int[] outsideOfNone = {-1, 0, 1};
        EDGES.refusedForEach("row of none", outsideOfNone, Edges::rich, (x, r) -> x.row(3, r), OUTSIDE);
        refused("a word has no rows", x -> x.row(0, 0), UNLIKE);
        refused("a word of none has no rows", x -> x.row(2, 0), UNLIKE);
        RaisedTableaux x = Edges.withLetters(5);
        Edges.told(x, 0, "11/2/3/4/5");
        due("a fifth row", x.row(0, 4), 5);
        due("no sixth", x.row(0, 5), OUTSIDE);
        Edges.told(x, 0, "123455");
        due("six in a row", x.row(0, 0), 123455);
        due("no second", x.row(0, 1), OUTSIDE);
    }

    /** "taken for a WORD (as 0) or a TABLEAU (1)"; -13. */
    private static void takenAs0Or1() {
        int[] wrong = {-1, 2, MIN, MAX};
        EDGES.refusedForEach("taken: as", wrong, Edges::rich, (x, as) -> x.taken(0, as), BAD);
        EDGES.refusedForEach("taken: as", wrong, Edges::rich, (x, as) -> x.taken(1, as), BAD);
        refused("a word for a word", x -> x.taken(0, 0), 6);
        refused("a word for a tableau", x -> x.taken(0, 1), UNLIKE);
        refused("a tableau for a word", x -> x.taken(1, 0), UNLIKE);
        refused("a tableau for a tableau", x -> x.taken(1, 1), 6);
        refused("a word of none for a word", x -> x.taken(2, 0), 0);
        refused("a word of none for a tableau", x -> x.taken(2, 1), UNLIKE);
        refused("a tableau of none for a word", x -> x.taken(3, 0), UNLIKE);
        refused("a tableau of none for a tableau", x -> x.taken(3, 1), 0);
    }

    private static void words() {
        aWordHas6LettersAtMost();
        aWordOfNoneIsAThing();
        wordsAreOfLetters1ToN();
        aWordInPlaceOfATableau();
    }

    private static void tableaux() {
        aTableauOfNone();
        aRowHasALetter();
        noRowIsLonger();
        noLetterIsLessThanOnItsLeft();
        eachIsGreaterThanAbove();
        tableauxAreOfLetters1ToN();
        noSeventhLetter();
        onlyBlanksAreBlank();
    }

    public static void main(String[] args) {
        aNewObject();
        nIs2To5();
        anotherNEmptiesAllSlots();
        anotherNLeavesTheRest();
        words();
        feedTakes1To8();
        theTapeTakes60();
        feedTakesTheLowestFirst();
        tableaux();
        bareOfNothing();
        ofIsAsked0To4();
        contentHasNDigits();
        rowsOfATableau();
        takenAs0Or1();
        EDGES.end();
    }
}
