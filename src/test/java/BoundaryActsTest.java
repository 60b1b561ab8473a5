/** The boundary cases of signs, acts, families and pairs: promises 10 to 17. */
public final class BoundaryActsTest {
    private static final Edges EDGES = new Edges();
    private static final int BAD = Edges.BAD, NONE = Edges.NONE;
    private static final int MIN = Edges.MIN, MAX = Edges.MAX;
    private static final int RAISE = 0, LOWER = 1, REFLECT = 2, TOP = 3, FOOT = 4, TURN = 5;

    private static void due(String sentence, int got, int want) {
        EDGES.due(sentence, got, want);
    }

    private static void refused(String sentence, Edges.Call call, int want) {
        EDGES.refused(sentence, Edges::rich, call, want);
    }

    private static RaisedTableaux holding(int n, int word) {
        return Edges.after(x -> {
            x.letters(n);
            x.word(0, word);
        });
    }

    // ---- i

    /** "for i (1 to n - 1)". */
    private static void iIs1ToNLess1() {
        for (int n = 2; n <= 5; n++) {
            int letters = n;
            Edges.Past past = x -> {
                x.letters(letters);
                x.word(0, 12);
            };
            for (int i = 1; i < n; i++) {
                RaisedTableaux x = Edges.after(past);
                due("signs: i is taken", x.signs(0, i, 0) < 0 ? 0 : 1, 1);
                due("act: i is taken", x.act(0, TOP, i, 0) < 0 ? 0 : 1, 1);
            }
            int[] wrong = {0, n, n + 1, -1, MIN, MAX};
            EDGES.refusedForEach("signs: i, low", wrong, past, (x, i) -> x.signs(0, i, 0), BAD);
            EDGES.refusedForEach("signs: i, high", wrong, past, (x, i) -> x.signs(0, i, 1), BAD);
            for (int act = RAISE; act <= FOOT; act++) {
                int done = act;
                EDGES.refusedForEach("act: i", wrong, past, (x, i) -> x.act(0, done, i, 1), BAD);
            }
            EDGES.refusedForEach("pair: i", wrong, past, (x, i) -> x.pair(0, i, 1), BAD);
            EDGES.refusedForEach("pair: j", wrong, past, (x, j) -> x.pair(0, 1, j), BAD);
        }
    }

    // ---- promise 10

    /** what is 0 or 1. */
    private static void signsAreAsked0Or1() {
        int[] wrong = {-1, 2, MIN, MAX};
        EDGES.refusedForEach("signs: what", wrong, Edges::rich, (x, what) -> x.signs(0, 1, what), BAD);
        refused("low of 21 . 1 . 2", x -> x.signs(0, 1, 0), 1);
        refused("high of it", x -> x.signs(0, 1, 1), 1);
        refused("low of none", x -> x.signs(2, 3, 0), 0);
        refused("high of none", x -> x.signs(3, 3, 1), 0);
    }

    private static void signs(int word, int low, int high) {
        RaisedTableaux x = holding(5, word);
        due("low of " + word, x.signs(0, 1, 0), low);
        due("high of " + word, x.signs(0, 1, 1), high);
    }

    /** "again and again ... are struck out, till there is none such". */
    private static void signsCancelTillNoneIsLeft() {
        signs(1, 1, 0);
        signs(2, 0, 1);
        signs(21, 0, 0);
        signs(12, 1, 1);
        signs(222111, 0, 0);
        signs(111222, 3, 3);
        signs(221121, 0, 0);
        signs(111111, 6, 0);
        signs(222222, 0, 6);
        signs(121212, 1, 1);
        signs(211, 1, 0);
        signs(221, 0, 1);
        RaisedTableaux x = holding(5, 112);
        due("low", x.signs(0, 1, 0), 2);
        due("low, asked again", x.signs(0, 1, 0), 2);
        due("high", x.signs(0, 1, 1), 1);
        due("high, asked again", x.signs(0, 1, 1), 1);
        // other letters between them do not matter
        signs(253414, 0, 0);
        signs(345345, 0, 0);
        signs(341524, 1, 1);
    }

    // ---- promise 11

    /** "an ACT (0 to 5)". */
    private static void actsAre0To5() {
        int[] wrong = {-1, 6, MIN, MAX};
        EDGES.refusedForEach("act", wrong, Edges::rich, (x, act) -> x.act(0, act, 1, 1), BAD);
        for (int act = RAISE; act <= TURN; act++) {
            RaisedTableaux x = Edges.after(Edges::rich);
            due("act " + act + " is one", x.act(0, act, 1, 5) < 0 ? 0 : 1, 1);
        }
    }

    /** "i (but by turn)": "5 turn (whatever i)". */
    private static void turnTakesAnyI() {
        int[] any = {0, 1, 3, 4, 5, -1, MIN, MAX};
        for (int i : any) {
            RaisedTableaux x = Edges.after(Edges::rich);
            due("turn, whatever i", x.act(0, TURN, i, 5), 1);
            due("is done", x.of(5, 2), 314243);
        }
    }

    /** "NONE: it can not be raised, lowered". */
    private static void noneCanNotBeMoved() {
        refused("11 can't be raised", x -> x.act(4, RAISE, 1, 0), NONE);
        refused("nor for 3", x -> x.act(4, RAISE, 3, 0), NONE);
        refused("11 can't be lowered for 2", x -> x.act(4, LOWER, 2, 4), NONE);
        refused("a word of none can't be raised", x -> x.act(2, RAISE, 1, 0), NONE);
        refused("a word of none can't be lowered", x -> x.act(2, LOWER, 1, 0), NONE);
        refused("a tableau of none can't be raised", x -> x.act(3, RAISE, 1, 5), NONE);
        refused("a tableau of none can't be lowered", x -> x.act(3, LOWER, 1, 5), NONE);
        refused("of 213142 the 3 and the 2 behind it are struck out", x -> x.act(0, RAISE, 2, 1), NONE);
        RaisedTableaux x = holding(2, 122222);
        due("the last time it can be lowered", x.act(0, LOWER, 1, 0), 1);
        due("all are 2", x.of(0, 2), 222222);
        due("no time more", x.act(0, LOWER, 1, 0), NONE);
        x.word(0, 111112);
        due("the last time it can be raised", x.act(0, RAISE, 1, 0), 1);
        due("all are 1", x.of(0, 2), 111111);
        due("no time more", x.act(0, RAISE, 1, 0), NONE);
        x.word(0, 212121);
        due("all struck out: not raised", x.act(0, RAISE, 1, 0), NONE);
        due("all struck out: not lowered", x.act(0, LOWER, 1, 0), NONE);
    }

    private static void acted(int word, int act, int answer, int comes) {
        RaisedTableaux x = holding(3, word);
        x.word(1, 3333);
        due("act " + act + " on " + word, x.act(0, act, 1, 1), answer);
        due("act " + act + " on " + word + " comes", x.of(1, 2), comes);
        due("act " + act + " on " + word + " leaves it", x.of(0, 2), word);
    }

    /** "1 if it is another one than it was, else 0": it comes into the slot all the same. */
    private static void whatDoesNotChangeComesToo() {
        acted(12, REFLECT, 0, 12);
        acted(21, REFLECT, 0, 21);
        acted(112, REFLECT, 1, 122);
        acted(122, REFLECT, 1, 112);
        acted(111111, REFLECT, 1, 222222);
        acted(222222, REFLECT, 1, 111111);
        acted(11, TOP, 0, 11);
        acted(222222, TOP, 1, 111111);
        acted(22, FOOT, 0, 22);
        acted(111111, FOOT, 1, 222222);
        acted(212121, TOP, 0, 212121);
        acted(212121, FOOT, 0, 212121);
        acted(123, TURN, 0, 123);
        acted(12, TURN, 1, 23);
        acted(0, REFLECT, 0, 0);
        acted(0, TOP, 0, 0);
        acted(0, FOOT, 0, 0);
        acted(0, TURN, 0, 0);
    }

    /** "of those left the first i + 1", "of those left the last i". */
    private static void theFirstAndTheLastOfThoseLeft() {
        acted(222, RAISE, 1, 122);
        acted(111, LOWER, 1, 112);
        acted(2122, RAISE, 1, 2112);
        acted(1121, LOWER, 1, 1221);
        acted(1122, RAISE, 1, 1112);
        acted(1122, LOWER, 1, 1222);
    }

    /** A tableau of none stays a tableau by whatever act. */
    private static void tableauxStayTableaux() {
        for (int act = REFLECT; act <= TURN; act++) {
            RaisedTableaux x = Edges.after(Edges::rich);
            due("act " + act + " on a tableau of none", x.act(3, act, 1, 0), 0);
            due("is a tableau", x.of(0, 0), 1);
            due("of none", x.of(0, 1), 0);
        }
        RaisedTableaux x = Edges.after(Edges::rich);
        due("a word over a tableau", x.act(0, REFLECT, 1, 1), 0);
        due("is a word", x.taken(1, 1), Edges.UNLIKE);
        x = Edges.withLetters(3);
        Edges.told(x, 0, "123");
        due("a row turned into itself", x.act(0, TURN, 0, 1), 0);
        due("is a tableau still", x.row(1, 0), 123);
        Edges.told(x, 0, "1/2/3");
        due("a column turned into itself", x.act(0, TURN, 0, 1), 0);
        due("has its rows", x.row(1, 2), 3);
        // reads 211, turned 332, of which comes 23/3
        Edges.told(x, 0, "11/2");
        due("another one", x.act(0, TURN, 0, 1), 1);
        due("is inserted", x.row(1, 0), 23);
        due("in its rows", x.row(1, 1), 3);
    }

    /** "comes into a SLOT (that one, too)". */
    private static void intoThatSlotToo() {
        RaisedTableaux x = Edges.after(Edges::rich);
        due("into its own slot", x.act(0, LOWER, 1, 0), 1);
        due("it is another", x.of(0, 2), 213242);
        due("a tableau turned into its own slot", x.act(1, TURN, 1, 1), 1);
        due("has its rows", x.of(1, 4), 3);
        due("into the last slot", x.act(1, TURN, 1, 5), 1);
        due("as it was at first", x.of(5, 2), 423112);
    }

    // ---- promise 12

    private static void done(int n, int word, String text, int changes, int comes) {
        RaisedTableaux x = holding(n, word);
        due("'" + text + "' on " + word, Edges.done(x, 0, text), changes);
        due("'" + text + "' on " + word + " comes", x.of(0, 2), comes);
        due("'" + text + "' is used up", x.many(3), 0);
    }

    private static void faulty(String sentence, int n, String text, int fault) {
        Edges.Past past = x -> {
            x.letters(n);
            x.word(0, 12);
            Edges.told(x, 1, "1/2");
        };
        EDGES.faulty(sentence, past, text, x -> x.acts(0), -100 - fault);
        EDGES.faulty(sentence, past, text, x -> x.acts(1), -100 - fault);
    }

    /** "{ NAME i ; }": a text may tell no acts, or as many as go on the tape. */
    private static void noActsAndMany() {
        done(3, 112, "", 0, 112);
        done(3, 112, " ".repeat(60), 0, 112);
        done(3, 112, "top1;".repeat(12), 1, 111);
        done(3, 112, "turn;".repeat(12), 12, 112);
        done(3, 0, "raise 1;lower 2;reflect 1;top 1;foot 2;turn;", 0, 0);
        RaisedTableaux x = Edges.after(Edges::richWithActs);
        due("on a tableau of none", x.acts(3), 0);
        due("is a tableau still", x.taken(3, 1), 0);
    }

    /** "(it stays, where it can not be raised, lowered)". */
    private static void itStaysWhereItCanNotBeMoved() {
        done(3, 11, "raise 1;", 0, 11);
        done(3, 11, "lower 2;", 0, 11);
        done(3, 11, "raise 1;lower 1;raise 2;", 1, 12);
        done(3, 12, "lower1;lower1;lower1;", 1, 22);
        done(2, 12, "reflect 1;", 0, 12);
        done(5, 14, "lower4;lower4;raise4;raise4;", 2, 14);
    }

    /** "an i that is not 1 to n - 1": its place; "one digit each". */
    private static void theIOfAText() {
        for (int n = 2; n <= 5; n++) {
            done(n, 0, "foot" + (n - 1) + ";", 0, 0);
            faulty("an i of n", n, "foot" + n + ";", 4);
            faulty("an i of n behind a blank", n, "top  " + n + ";", 5);
            faulty("an i of 0", n, "raise0;", 5);
            faulty("an i of 9", n, "lower 9;", 6);
        }
        faulty("an i of two digits", 5, "top 12;", 5);
        faulty("no i", 3, "top;", 3);
        faulty("no i but a sign ahead of digits", 3, "top/;", 3);
        faulty("no i but a sign behind digits", 3, "top:;", 3);
        faulty("no i but a NAME", 3, "top turn;", 4);
        faulty("an i by turn", 3, "turn1;", 4);
        faulty("an i by turn behind a blank", 3, "turn 1;", 5);
    }

    /** "or the end (how many bytes there are), if more must come". */
    private static void theEndOfAText() {
        faulty("an i must come", 3, "raise", 5);
        faulty("an i must come behind blanks", 3, "raise   ", 8);
        faulty("a semicolon must come", 3, "reflect2", 8);
        faulty("a semicolon must come behind blanks", 3, "reflect2  ", 10);
        faulty("a semicolon must come by turn", 3, "turn", 4);
        faulty("a semicolon must come by turn behind a blank", 3, "turn ", 5);
        faulty("behind an act that is whole", 3, "turn;foot1", 10);
        faulty("an i must come at the sixtieth", 3, "turn;" + " ".repeat(52) + "top", 60);
        faulty("a semicolon must come at the sixtieth", 3, "turn;" + " ".repeat(51) + "turn", 60);
    }

    /** "NAMES rows of letters a to z, as long as they go"; "of a NAME the place of its first byte". */
    private static void theNamesOfAText() {
        faulty("no such NAME", 3, "lift 1;", 0);
        faulty("no such NAME behind a blank", 3, " lift 1;", 1);
        faulty("no such NAME behind an act", 3, "turn; lift 1;", 6);
        faulty("a NAME that goes on with a", 3, "topa1;", 0);
        faulty("a NAME that goes on with z", 3, "topz1;", 0);
        faulty("a NAME ends ahead of the sign behind z", 3, "top{1;", 3);
        faulty("a NAME ends ahead of the sign ahead of a", 3, "top`1;", 3);
        faulty("a NAME ends ahead of a capital", 3, "topA1;", 3);
        faulty("a NAME of capitals", 3, "TOP1;", 0);
        faulty("two NAMES are one without a blank", 3, "turnturn;", 0);
        faulty("a NAME that breaks off", 3, "turn;tur;", 5);
        faulty("a NAME that breaks off at the end", 3, "turn;rais", 5);
        faulty("a blank within a NAME", 3, "to p1;", 0);
        faulty("a blank behind a NAME's last but one", 3, "tur n;", 0);
        faulty("no NAME but a digit", 3, "1;", 0);
        faulty("no NAME but a semicolon", 3, ";", 0);
        faulty("a second semicolon", 3, "turn;;", 5);
        faulty("a comma", 3, "top1,", 4);
        String[] names = {"raise", "lower", "reflect", "top", "foot"};
        for (String name : names) {
            done(2, 0, name + "1;", 0, 0);
            done(2, 0, "  " + name + "  1  ;  ", 0, 0);
            faulty("a NAME without its last letter", 2, name.substring(0, name.length() - 1) + "1;", 0);
            faulty("a NAME with one more", 2, name + "s1;", 0);
            for (int k = 0; k < name.length(); k++) {
                String other = name.substring(0, k) + "q" + name.substring(k + 1);
                faulty("a NAME with another letter", 2, other + "1;", 0);
            }
        }
        done(2, 0, "  turn  ;  ", 0, 0);
    }

    /** "blanks (32) stand anywhere": no other byte does. */
    private static void onlyBlanksAreBlank() {
        int[] others = {0, 9, 10, 13, 31, 33, 160};
        for (int other : others) {
            faulty("byte " + other + " is no blank", 3, "turn" + (char) other + ";", 4);
            faulty("byte " + other + " is no blank ahead", 3, (char) other + "turn;", 0);
        }
    }

    // ---- promises 13 to 16

    /** what is 0 to 2; a thing that can't be raised is its HIGHEST. */
    private static void highestIsAsked0To2() {
        int[] wrong = {-1, 3, MIN, MAX};
        EDGES.refusedForEach("highest: what", wrong, Edges::rich, (x, what) -> x.highest(0, what), BAD);
        int[] ofRich = {4, 212121, 3300};
        int[] ofNone = {0, 0, 0};
        for (int what = 0; what <= 2; what++) {
            int asked = what;
            refused("highest of a word", x -> x.highest(0, asked), ofRich[what]);
            refused("highest of a word of none", x -> x.highest(2, asked), ofNone[what]);
            refused("highest of a tableau of none", x -> x.highest(3, asked), ofNone[what]);
        }
        highest(2, 111111, 0, 111111, 60);
        highest(2, 222222, 6, 111111, 60);
        highest(5, 555555, 24, 111111, 60000);
        highest(5, 54321, 0, 54321, 11111);
    }

    private static void highest(int n, int word, int raised, int read, int content) {
        RaisedTableaux x = holding(n, word);
        due("how often " + word + " is raised", x.highest(0, 0), raised);
        due("highest of " + word, x.highest(0, 1), read);
        due("its content", x.highest(0, 2), content);
    }

    private static void family(int n, int word, int many, int first, int last) {
        RaisedTableaux x = holding(n, word);
        due("all of " + word, x.all(0, -1), many);
        due("the first of " + word, x.all(0, 0), first);
        due("the last of " + word, x.all(0, many - 1), last);
        due("not so many of " + word, x.all(0, many), NONE);
        x.word(1, first);
        due("the first stands", x.stands(1), 0);
        x.word(1, last);
        due("the last stands", x.stands(1), many - 1);
    }

    /** "how many (i -1), READ of the i-th", "NONE: there are not so many". */
    private static void allHasAnEnd() {
        family(3, 0, 1, 0, 0);
        family(3, 321, 1, 321, 321);
        family(2, 212121, 1, 212121, 212121);
        family(2, 111111, 7, 111111, 222222);
        family(5, 333333, 210, 111111, 555555);
        family(5, 211111, 420, 211111, 545555);
        family(5, 221111, 420, 221111, 554455);
        int[] wrong = {-2, -3, MIN};
        EDGES.refusedForEach("all: i below -1", wrong, Edges::rich, (x, i) -> x.all(0, i), BAD);
        int[] beyond = {50, 51, MAX};
        EDGES.refusedForEach("all: not so many", beyond, Edges::rich, (x, i) -> x.all(0, i), NONE);
        int[] beyondNone = {1, 2, MAX};
        EDGES.refusedForEach("all of none", beyondNone, Edges::rich, (x, i) -> x.all(2, i), NONE);
        EDGES.refusedForEach("all of a tableau of none", beyondNone, Edges::rich, (x, i) -> x.all(3, i), NONE);
        refused("all of 213142", x -> x.all(0, -1), 50);
    }

    /** What was listed of a thing is not answered for another one. */
    private static void familiesOfOthers() {
        RaisedTableaux x = Edges.withLetters(2);
        x.word(0, 12);
        x.word(1, 21);
        x.word(2, 112);
        due("all of 12", x.all(0, -1), 3);
        due("all of 21", x.all(1, -1), 1);
        due("all of 112", x.all(2, -1), 4);
        x.word(1, 11);
        x.word(2, 111);
        due("all of 111", x.all(2, -1), 4);
        due("all of 11 behind it", x.all(1, -1), 3);
        x.letters(3);
        x.word(0, 11);
        due("all of 11 by three letters", x.all(0, -1), 6);
        x.word(0, 12);
        due("a member is none less", x.act(0, RAISE, 1, 0), 1);
        due("all of 11", x.all(0, -1), 6);
        due("the first stands first", x.stands(0), 0);
    }

    /** "Which one a THING is in ALL OF IT": from the first to the last, whatever was asked ahead. */
    private static void eachStandsInItsPlace() {
        due("the last, asked first of all", holding(2, 222222).stands(0), 6);
        due("one alone", holding(3, 321).stands(0), 0);
        refused("a word of none", x -> x.stands(2), 0);
        refused("a tableau of none", x -> x.stands(3), 0);
        RaisedTableaux x = holding(5, 333333);
        for (int place = 0; place < 100; place++) {
            x.word(1, x.all(0, place));
            due("the one that stands there", x.stands(1), place);
        }
    }

    /** WAY of none that can be lowered, and the longest. */
    private static void wayFrom0To24() {
        refused("way of a word of none", x -> x.way(2), 0);
        refused("way of a tableau of none", x -> x.way(3), 0);
        due("way of one alone", holding(3, 321).way(0), 0);
        due("way of two letters", holding(2, 222222).way(0), 6);
        due("the longest", holding(5, 555555).way(0), 24);
        due("from its highest", holding(5, 111111).way(0), 24);
    }

    // ---- promise 17

    /** "BAD: ... or they are one", "NONE: it can not be raised for each". */
    private static void pairs() {
        for (int i = 1; i <= 3; i++) {
            int one = i;
            refused("they are one", x -> x.pair(0, one, one), BAD);
        }
        refused("raised for none", x -> x.pair(4, 1, 2), NONE);
        refused("a word of none", x -> x.pair(2, 1, 2), NONE);
        refused("a tableau of none", x -> x.pair(3, 1, 3), NONE);
        refused("raised for the first alone", x -> x.pair(0, 1, 2), NONE);
        refused("raised for the second alone", x -> x.pair(0, 2, 1), NONE);
        refused("raised for each", x -> x.pair(0, 1, 3), 1);
        RaisedTableaux two = holding(2, 22);
        due("two letters have one i alone", two.pair(0, 1, 1), BAD);
        due("and no other", two.pair(0, 1, 2), BAD);
    }

    /** "1 if ... the same ...; else 2, if ... i, j, j, i ... j, i, i, j". */
    private static void pairsThatMeet() {
        // 23 goes to 13 and 12, or to 22 and 12
        due("in two", holding(3, 23).pair(0, 1, 2), 1);
        due("in two the other way", holding(3, 23).pair(0, 2, 1), 1);
        // 323 goes to 313, 213, 212, 211, or to 322, 312, 311, 211
        due("in four", holding(3, 323).pair(0, 1, 2), 2);
        due("in four the other way", holding(3, 323).pair(0, 2, 1), 2);
        due("far ones", holding(5, 25).pair(0, 1, 4), 1);
        EDGES.refused("pair changes nothing", x -> {
            x.word(0, 323);
            x.keep();
        }, x -> x.pair(0, 1, 2), 2);
    }

    private static void texts() {
        noActsAndMany();
        itStaysWhereItCanNotBeMoved();
        theIOfAText();
        theEndOfAText();
        theNamesOfAText();
        onlyBlanksAreBlank();
    }

    private static void moves() {
        actsAre0To5();
        turnTakesAnyI();
        noneCanNotBeMoved();
        whatDoesNotChangeComesToo();
        theFirstAndTheLastOfThoseLeft();
        tableauxStayTableaux();
        intoThatSlotToo();
    }

    public static void main(String[] args) {
        iIs1ToNLess1();
        signsAreAsked0Or1();
        signsCancelTillNoneIsLeft();
        moves();
        texts();
        highestIsAsked0To2();
        allHasAnEnd();
        familiesOfOthers();
        eachStandsInItsPlace();
        wayFrom0To24();
        pairs();
        pairsThatMeet();
        EDGES.end();
    }
}
