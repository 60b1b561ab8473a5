import java.nio.charset.StandardCharsets;
import java.util.List;

/**
 * What the tests of the boundary cases share. That a refused call changes nothing is seen by two
 * objects with one past: the call is made on the one alone, and then whatever can be seen of both
 * must be the same.
 */
final class Edges {
    static final int BAD = -1, FULL = -2, NONE = -3, OVER = -16;
    static final int NOTHING = -11, OUTSIDE = -12, UNLIKE = -13, BELOW = -14;
    static final int MIN = Integer.MIN_VALUE, MAX = Integer.MAX_VALUE;
    static final int[] NO_SLOTS = {-1, 6, MIN, MAX};
    static final int[] NO_SHEETS = {-1, 4, MIN, MAX};

    /** Calls on an object ahead of the one that is looked at. */
    interface Past {
        void happen(RaisedTableaux x);
    }

    interface Call {
        int on(RaisedTableaux x);
    }

    /** A call that is made for several numbers. */
    interface CallFor {
        int on(RaisedTableaux x, int number);
    }

    private interface Look {
        void at(RaisedTableaux x, StringBuilder seen);
    }

    /** Each on objects of its own, because some of them change what they look at. */
    private static final List<Look> LOOKS = List.of(Edges::lookAtThings, Edges::lookAtNumbers,
            Edges::lookAtSheets, Edges::lookAtTapeByTableau, Edges::lookAtTapeByActs, Edges::lookAtKept);

    private int wrong = 0;
    private int asked = 0;

    // ---- what is due

    void due(String sentence, int got, int want) {
        asked++;
        if (got != want) {
            wrong++;
            System.out.println(sentence + ": answered " + got + ", due is " + want);
        }
    }

    /** The call is answered so, and nothing is changed by it. */
    void refused(String sentence, Past past, Call call, int want) {
        for (Look look : LOOKS) {
            RaisedTableaux touched = after(past);
            due(sentence, call.on(touched), want);
            same(sentence, look, touched, after(past));
        }
    }

    void refusedForEach(String sentence, int[] numbers, Past past, CallFor call, int want) {
        for (int number : numbers) {
            refused(sentence + " (" + number + ")", past, x -> call.on(x, number), want);
        }
    }

    /** The call is answered so, and nothing is changed but that the tape is used up. */
    void faulty(String sentence, Past past, String text, Call call, int want) {
        for (Look look : LOOKS) {
            RaisedTableaux touched = after(past);
            tell(touched, text);
            due(sentence + " '" + text + "'", call.on(touched), want);
            same(sentence + " '" + text + "'", look, touched, after(past));
        }
    }

    private void same(String sentence, Look look, RaisedTableaux touched, RaisedTableaux untouched) {
        StringBuilder seen = new StringBuilder();
        StringBuilder expected = new StringBuilder();
        look.at(touched, seen);
        look.at(untouched, expected);
        if (!seen.toString().equals(expected.toString())) {
            wrong++;
            System.out.println(sentence + ": has changed something, seen is " + seen + ", due is " + expected);
        }
    }

    /** To be called last: ends the program with 1, if an answer was wrong. */
    void end() {
        System.out.println(wrong == 0 ? "all " + asked + " answers are as due" : wrong + " are not as due");
        if (wrong != 0) {
            System.exit(1);
        }
    }

    // ---- pasts

    static RaisedTableaux after(Past past) {
        RaisedTableaux x = new RaisedTableaux();
        past.happen(x);
        return x;
    }

    static RaisedTableaux withLetters(int n) {
        return after(x -> x.letters(n));
    }

    /**
     * Letters 1 to 4. Slots: 0 the word 213142, 1 the tableau 112/23/4, 2 a word of none, 3 a tableau
     * of none, 4 the word 11, 5 nothing. Sheets: 0 bytes (1 2 3 4 0 9), 1 forty chars, 2 three longs,
     * 3 missing. Another state is kept. The tape is empty.
     */
    static void richButForTape(RaisedTableaux x) {
        x.letters(5);
        x.word(3, 54321);
        told(x, 4, "15/2");
        x.worth(5, 55);
        x.seed(555);
        x.keep();
        x.worth(5, 15);
        x.letters(4);
        x.word(0, 213142);
        told(x, 1, "112/23/4");
        x.word(2, 0);
        x.tableau(3);
        x.word(4, 11);
        for (int letter = 1; letter <= 4; letter++) {
            x.worth(letter, 10 + letter);
        }
        x.seed(77);
        fillSheets(x);
    }

    private static void fillSheets(RaisedTableaux x) {
        int[] bytes = {1, 2, 3, 4, 0, 9};
        x.sheet(0, 0, bytes.length);
        for (int i = 0; i < bytes.length; i++) {
            x.put(0, i, bytes[i]);
        }
        x.sheet(1, 1, 40);
        x.put(1, 0, 3);
        x.put(1, 39, 65535);
        x.sheet(2, 2, 3);
        x.put(2, 2, -7);
    }

    /** And the tape tells the tableau 13/2. */
    static void rich(RaisedTableaux x) {
        richButForTape(x);
        tell(x, "13/2");
    }

    /** And the tape tells acts. */
    static void richWithActs(RaisedTableaux x) {
        richButForTape(x);
        tell(x, "lower 1;turn;");
    }

    /** Puts a text on the tape, eight bytes at a time. */
    static void tell(RaisedTableaux x, String text) {
        byte[] bytes = text.getBytes(StandardCharsets.ISO_8859_1);
        for (int at = 0; at < bytes.length; at += 8) {
            int n = Math.min(8, bytes.length - at);
            long eight = 0;
            for (int k = n - 1; k >= 0; k--) {
                eight = eight << 8 | (bytes[at + k] & 255);
            }
            x.feed(eight, n);
        }
    }

    static int told(RaisedTableaux x, int slot, String text) {
        tell(x, text);
        return x.tableau(slot);
    }

    static int done(RaisedTableaux x, int slot, String text) {
        tell(x, text);
        return x.acts(slot);
    }

    // ---- what can be seen of an object

    private static void lookAtThings(RaisedTableaux x, StringBuilder seen) {
        for (int what = 0; what < 4; what++) {
            seen.append(x.many(what)).append(' ');
        }
        for (int slot = 0; slot < 6; slot++) {
            seen.append("slot ").append(slot).append(": ");
            for (int what = 0; what < 5; what++) {
                seen.append(x.of(slot, what)).append(' ');
            }
            for (int r = 0; r < 6; r++) {
                seen.append(x.row(slot, r)).append(' ');
            }
        }
    }

    private static void lookAtNumbers(RaisedTableaux x, StringBuilder seen) {
        seen.append("z ").append(x.seed(0)).append(" n ").append(x.letters(5)).append(" worths ");
        for (int letter = 1; letter <= 5; letter++) {
            seen.append(x.worth(letter, 1)).append(' ');
        }
    }

    private static void lookAtSheets(RaisedTableaux x, StringBuilder seen) {
        for (int sheet = 0; sheet < 4; sheet++) {
            seen.append("sheet ").append(sheet).append(": ");
            for (int sort = 0; sort < 3; sort++) {
                int first = x.item(sheet, sort, 0);
                for (int i = 0; i <= 40 && first != NOTHING && first != UNLIKE; i++) {
                    seen.append(x.item(sheet, sort, i)).append(' ');
                }
                seen.append(first).append(' ');
            }
        }
    }

    private static void lookAtTapeByTableau(RaisedTableaux x, StringBuilder seen) {
        seen.append("tape ").append(x.many(3)).append(' ').append(x.tableau(5)).append(' ');
        seen.append(x.of(5, 2)).append(' ').append(x.row(5, 0));
    }

    private static void lookAtTapeByActs(RaisedTableaux x, StringBuilder seen) {
        x.word(5, 12);
        seen.append("acts ").append(x.acts(5)).append(' ').append(x.of(5, 2));
    }

    private static void lookAtKept(RaisedTableaux x, StringBuilder seen) {
        seen.append("kept ").append(x.again()).append(' ');
        lookAtThings(x, seen);
        lookAtNumbers(x, seen);
    }
}
