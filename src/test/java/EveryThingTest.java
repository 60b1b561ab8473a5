import java.util.Arrays;
import java.util.HashSet;
import java.util.List;
import java.util.Set;

/**
 * Every word of up to six letters of 1 to n, for every n, and the tableau that comes of it: whatever
 * can be asked of it and done to it, on the class and on the model. Each word has an object of its own,
 * for an object is used for at most 512 calls.
 */
public final class EveryThingTest {
    private static final int WORD = 0, TABLEAU = 1, RESULT = 2;
    private static final int ACTS = 6, TURN = 5;

    private static int wrong = 0;
    private static int asked = 0;

    /** An object and a model with the same calls behind them. */
    private static final class Both {
        final RaisedTableaux x = new RaisedTableaux();
        final Model m = new Model();
        final String told;
        int calls = 0;

        Both(int n, String word) {
            told = "letters " + n + ", word '" + word + "'";
            call("letters", n);
            call("word", WORD, Model.number(word));
            call("insert", WORD, TABLEAU);
        }

        void call(String name, int... a) {
            due(name, m.answer(name, a, 0), a);
        }

        /** For answers that the model need not find anew for each word. */
        void due(String name, int want, int... a) {
            calls++;
            asked++;
            int got = Calls.answer(x, name, a, 0);
            if (got != want || calls > 512) {
                wrong++;
                System.out.println(told + ": " + name + Arrays.toString(a) + " answered " + got
                        + ", due is " + want + " (call " + calls + ")");
            }
        }

        boolean tableauIsReadSo(String word) {
            return m.slots[TABLEAU].read().equals(word);
        }
    }

    private static void look(Both both, int slot, int n) {
        for (int what = 0; what <= 4; what++) {
            both.call("of", slot, what);
        }
        for (int what = 0; what <= 2; what++) {
            both.call("highest", slot, what);
        }
        both.call("way", slot);
        for (int i = 1; i < n; i++) {
            both.call("signs", slot, i, 0);
            both.call("signs", slot, i, 1);
            for (int j = 1; j < n; j++) {
                both.call("pair", slot, i, j);
            }
        }
    }

    private static void move(Both both, int slot, int n) {
        for (int act = 0; act < ACTS; act++) {
            for (int i = 1; i < (act == TURN ? 2 : n); i++) {
                both.call("act", slot, act, i, RESULT);
                both.call("of", RESULT, 2);
                both.call("row", RESULT, 0);
                both.call("row", RESULT, 1);
            }
        }
    }

    private static void insertions(Both both, int n) {
        for (int r = 0; r <= n; r++) {
            both.call("row", TABLEAU, r);
            both.call("record", WORD, r);
            both.call("record", TABLEAU, r);
        }
        both.call("alike", WORD, TABLEAU);
    }

    private static void oneWord(int n, String word) {
        Both first = new Both(n, word);
        look(first, WORD, n);
        move(first, WORD, n);
        insertions(first, n);
        Both second = new Both(n, word);
        look(second, TABLEAU, n);
        move(second, TABLEAU, n);
    }

    /** Each member knows all of it, be it a word or the tableau that is read so. */
    private static void oneFamily(int n, List<String> family) {
        for (int at = 0; at < family.size(); at++) {
            String word = family.get(at);
            Both both = new Both(n, word);
            int last = both.tableauIsReadSo(word) ? TABLEAU : WORD;
            for (int slot = WORD; slot <= last; slot++) {
                both.due("all", family.size(), slot, -1);
                both.due("stands", at, slot);
                both.due("all", Model.number(word), slot, at);
                both.due("all", RaisedTableaux.NONE, slot, family.size());
            }
        }
        Both both = new Both(n, family.get(0));
        for (int at = 0; at < family.size(); at++) {
            both.due("all", Model.number(family.get(at)), WORD, at);
        }
    }

    private static void everyWord(int n, String start, Set<String> seen) {
        oneWord(n, start);
        if (!seen.contains(start)) {
            Model m = new Model();
            m.letters(n);
            List<String> family = m.family(start);
            seen.addAll(family);
            oneFamily(n, family);
        }
        for (int letter = 1; letter <= n && start.length() < 6; letter++) {
            everyWord(n, start + letter, seen);
        }
    }

    public static void main(String[] args) {
        for (int n = 2; n <= 5; n++) {
            everyWord(n, "", new HashSet<>());
        }
        System.out.println(wrong == 0 ? "all " + asked + " answers are as due" : wrong + " are not as due");
        if (wrong != 0) {
            System.exit(1);
        }
    }
}
