import java.util.ArrayDeque;
import java.util.ArrayList;
import java.util.Arrays;
import java.util.Deque;
import java.util.List;
import java.util.TreeSet;

/**
 * A slow model, which is written from the words of the document alone and another way than the class:
 * things are texts, signs are struck out one pair after the other, tableaux are found by trying all
 * letters.
 */
final class Model {
    /** A word (rows is null) or a tableau, whose rows stand with the highest first. */
    static final class Thing {
        final String word;
        final List<String> rows;

        Thing(String word, List<String> rows) {
            this.word = word;
            this.rows = rows;
        }

        String read() {
            if (rows == null) {
                return word;
            }
            StringBuilder read = new StringBuilder();
            for (int r = rows.size() - 1; r >= 0; r--) {
                read.append(rows.get(r));
            }
            return read.toString();
        }

        /** The same rows with other letters. */
        Thing with(String read) {
            if (rows == null) {
                return new Thing(read, null);
            }
            List<String> others = new ArrayList<>();
            int end = read.length();
            for (String row : rows) {
                others.add(read.substring(end - row.length(), end));
                end -= row.length();
            }
            return new Thing(null, others);
        }

        boolean same(Thing other) {
            return (rows == null) == (other.rows == null) && read().equals(other.read())
                    && (rows == null || rows.equals(other.rows));
        }
    }

    private static final class Fault extends Exception {
        private static final long serialVersionUID = 1L;
        final int place;

        Fault(int place) {
            this.place = place;
        }
    }

    int n = 3;
    int z = 1;
    Thing[] slots = new Thing[6];
    int[] worths = {1, 1, 1, 1, 1};
    String tape = "";
    Object[] sheets = new Object[4];
    Model kept;

    boolean slot(int s) {
        return s >= 0 && s <= 5;
    }

    boolean step(int i) {
        return i >= 1 && i <= n - 1;
    }

    static int number(String digits) {
        return digits.isEmpty() ? 0 : Integer.parseInt(digits);
    }

    // ---- moves

    /** Places of the letters that are left. */
    static List<Integer> left(String read, int i) {
        List<Integer> left = new ArrayList<>();
        for (int p = 0; p < read.length(); p++) {
            int letter = read.charAt(p) - '0';
            if (letter == i || letter == i + 1) {
                left.add(p);
            }
        }
        boolean again = true;
        while (again) {
            again = false;
            for (int k = 0; k + 1 < left.size() && !again; k++) {
                if (read.charAt(left.get(k)) == '0' + i + 1 && read.charAt(left.get(k + 1)) == '0' + i) {
                    left.remove(k + 1);
                    left.remove(k);
                    again = true;
                }
            }
        }
        return left;
    }

    static int howMany(String read, int i, int letter) {
        int many = 0;
        for (int p : left(read, i)) {
            if (read.charAt(p) == '0' + letter) {
                many++;
            }
        }
        return many;
    }

    static String moved(String read, int place, int letter) {
        return read.substring(0, place) + letter + read.substring(place + 1);
    }

    /** Null, if it can't be raised. */
    static String raised(String read, int i) {
        if (read == null) {
            return null;
        }
        for (int p : left(read, i)) {
            if (read.charAt(p) == '0' + i + 1) {
                return moved(read, p, i);
            }
        }
        return null;
    }

    static String lowered(String read, int i) {
        List<Integer> left = left(read, i);
        for (int k = left.size() - 1; k >= 0; k--) {
            if (read.charAt(left.get(k)) == '0' + i) {
                return moved(read, left.get(k), i + 1);
            }
        }
        return null;
    }

    Thing done(Thing thing, int act, int i) {
        String read = thing.read();
        if (act == 5) {
            StringBuilder turned = new StringBuilder();
            for (int p = read.length() - 1; p >= 0; p--) {
                turned.append(n + 1 - (read.charAt(p) - '0'));
            }
            return thing.rows == null ? new Thing(turned.toString(), null) : inserted(turned.toString());
        }
        int low = howMany(read, i, i);
        int high = howMany(read, i, i + 1);
        int[] downs = {-1, 1, low - high, -high, low};
        for (int k = 0; k < Math.abs(downs[act]); k++) {
            String next = downs[act] > 0 ? lowered(read, i) : raised(read, i);
            read = next == null ? read : next;
        }
        return thing.with(read);
    }

    List<String> wayUp(String from) {
        List<String> way = new ArrayList<>(List.of(from));
        for (int i = 1; i < n; i++) {
            String next = raised(way.get(way.size() - 1), i);
            if (next != null) {
                way.add(next);
                i = 0;
            }
        }
        return way;
    }

    List<String> family(String from) {
        TreeSet<String> seen = new TreeSet<>(List.of(from));
        Deque<String> open = new ArrayDeque<>(seen);
        while (!open.isEmpty()) {
            String read = open.remove();
            for (int i = 1; i < n; i++) {
                for (String next : new String[] {raised(read, i), lowered(read, i)}) {
                    if (next != null && seen.add(next)) {
                        open.add(next);
                    }
                }
            }
        }
        return new ArrayList<>(seen);
    }

    int pairOf(String read, int i, int j) {
        String one = raised(raised(read, i), j);
        if (one != null && one.equals(raised(raised(read, j), i))) {
            return 1;
        }
        String four = raised(raised(raised(raised(read, i), j), j), i);
        return four != null && four.equals(raised(raised(raised(raised(read, j), i), i), j)) ? 2 : 0;
    }

    // ---- insertion

    /** Rows of letters, and behind them as many rows of when a place came. */
    static List<List<String>> insertion(String read) {
        List<String> rows = new ArrayList<>();
        List<String> turns = new ArrayList<>();
        for (int p = 0; p < read.length(); p++) {
            char letter = read.charAt(p);
            int r = 0;
            while (true) {
                if (r == rows.size()) {
                    rows.add("");
                    turns.add("");
                }
                String row = rows.get(r);
                int c = 0;
                while (c < row.length() && row.charAt(c) <= letter) {
                    c++;
                }
                if (c == row.length()) {
                    rows.set(r, row + letter);
                    turns.set(r, turns.get(r) + (p + 1));
                    break;
                }
                rows.set(r, row.substring(0, c) + letter + row.substring(c + 1));
                letter = row.charAt(c);
                r++;
            }
        }
        return List.of(rows, turns);
    }

    static Thing inserted(String read) {
        return new Thing(null, insertion(read).get(0));
    }

    // ---- shapes

    /** Null, if the digits tell none. */
    int[] shape(int digits) {
        if (digits < 0) {
            return null;
        }
        String told = digits == 0 ? "" : Integer.toString(digits);
        int[] lengths = told.chars().map(c -> c - '0').toArray();
        for (int r = 0; r < lengths.length; r++) {
            if (lengths[r] == 0 || (r > 0 && lengths[r] > lengths[r - 1])) {
                return null;
            }
        }
        return lengths.length > n || Arrays.stream(lengths).sum() > 6 ? null : lengths;
    }

    static int sizeOf(int[] shape) {
        return Arrays.stream(shape).sum();
    }

    /** All rows of letters that can stand in the shape, whether tableaux or not, are tried. */
    List<Thing> tableaux(int[] shape) {
        int size = sizeOf(shape);
        List<Thing> found = new ArrayList<>();
        for (int code = 0; code < Math.round(Math.pow(n, size)); code++) {
            StringBuilder letters = new StringBuilder();
            for (int k = 0, rest = code; k < size; k++, rest /= n) {
                letters.append(rest % n + 1);
            }
            List<String> rows = new ArrayList<>();
            int at = 0;
            for (int length : shape) {
                rows.add(letters.substring(at, at + length));
                at += length;
            }
            if (isTableau(rows)) {
                found.add(new Thing(null, rows));
            }
        }
        return found;
    }

    static boolean isTableau(List<String> rows) {
        for (int r = 0; r < rows.size(); r++) {
            for (int c = 0; c < rows.get(r).length(); c++) {
                char letter = rows.get(r).charAt(c);
                if (c > 0 && letter < rows.get(r).charAt(c - 1)) {
                    return false;
                }
                if (r > 0 && (c >= rows.get(r - 1).length() || letter <= rows.get(r - 1).charAt(c))) {
                    return false;
                }
            }
        }
        return true;
    }

    String contentOf(String read) {
        StringBuilder content = new StringBuilder();
        for (int letter = 1; letter <= n; letter++) {
            char sign = (char) ('0' + letter);
            content.append(read.chars().filter(c -> c == sign).count());
        }
        return content.toString();
    }

    int count(int digits, int content) {
        int[] shape = shape(digits);
        String told = String.format("%0" + n + "d", Math.max(content, 0));
        if (shape == null || content < 0 || told.length() > n
                || told.chars().map(c -> c - '0').sum() > 6) {
            return -1;
        }
        int many = 0;
        for (Thing tableau : tableaux(shape)) {
            many += contentOf(tableau.read()).equals(told) ? 1 : 0;
        }
        return many;
    }

    int together(int one, int two, int three) {
        int[] first = shape(one);
        int[] second = shape(two);
        int[] third = shape(three);
        if (first == null || second == null || third == null || sizeOf(first) + sizeOf(second) > 6) {
            return -1;
        }
        List<String> top = new ArrayList<>();
        for (int r = 0; r < first.length; r++) {
            top.add(Integer.toString(r + 1).repeat(first[r]));
        }
        StringBuilder wanted = new StringBuilder(three == 0 ? "" : Integer.toString(three));
        while (wanted.length() < n) {
            wanted.append('0');
        }
        int many = 0;
        for (Thing tableau : tableaux(second)) {
            String word = tableau.read() + new Thing(null, top).read();
            if (wayUp(word).size() == 1 && contentOf(word).contentEquals(wanted)) {
                many++;
            }
        }
        return many;
    }

    int worthOf(int digits) {
        int[] shape = shape(digits);
        if (shape == null) {
            return -1;
        }
        long sum = 0;
        for (Thing tableau : tableaux(shape)) {
            sum += tableau.read().chars().mapToLong(c -> worths[c - '1']).reduce(1, (a, b) -> a * b);
        }
        return sum > Integer.MAX_VALUE ? -16 : (int) sum;
    }

    // ---- texts

    int blanks(int from) {
        int at = from;
        while (at < tape.length() && tape.charAt(at) == ' ') {
            at++;
        }
        return at;
    }

    char charAt(int at) {
        return at < tape.length() ? tape.charAt(at) : '\n';
    }

    Thing toldTableau() throws Fault {
        List<String> rows = new ArrayList<>();
        int at = blanks(0);
        int letters = 0;
        while (at < tape.length()) {
            rows.add("");
            int r = rows.size() - 1;
            do {
                rows.set(r, rows.get(r) + charAt(at));
                letters++;
                if (charAt(at) < '1' || charAt(at) > '0' + n || letters > 6 || !isTableau(rows)) {
                    throw new Fault(at);
                }
                at = blanks(at + 1);
            } while (Character.isDigit(charAt(at)));
            if (at < tape.length()) {
                if (charAt(at) != '/') {
                    throw new Fault(at);
                }
                at = blanks(at + 1);
                if (at == tape.length()) {
                    throw new Fault(at);
                }
            }
        }
        return new Thing(null, rows);
    }

    List<int[]> toldActs() throws Fault {
        List<String> names = List.of("raise", "lower", "reflect", "top", "foot", "turn");
        List<int[]> told = new ArrayList<>();
        int at = blanks(0);
        while (at < tape.length()) {
            int end = at;
            while (charAt(end) >= 'a' && charAt(end) <= 'z') {
                end++;
            }
            int act = names.indexOf(tape.substring(at, end));
            if (act < 0) {
                throw new Fault(at);
            }
            at = blanks(end);
            int i = 0;
            if (act < 5) {
                i = charAt(at) - '0';
                if (!step(i)) {
                    throw new Fault(at);
                }
                at = blanks(at + 1);
            }
            if (charAt(at) != ';') {
                throw new Fault(at);
            }
            told.add(new int[] {act, i});
            at = blanks(at + 1);
        }
        return told;
    }

    int tableau(int s) {
        if (!slot(s)) {
            return -1;
        }
        try {
            slots[s] = toldTableau();
            return slots[s].read().length();
        } catch (Fault fault) {
            return -100 - fault.place;
        } finally {
            tape = "";
        }
    }

    int acts(int s) {
        if (!slot(s)) {
            return -1;
        }
        if (slots[s] == null) {
            return -11;
        }
        try {
            int changes = 0;
            for (int[] told : toldActs()) {
                Thing next = done(slots[s], told[0], told[1]);
                changes += next.same(slots[s]) ? 0 : 1;
                slots[s] = next;
            }
            return changes;
        } catch (Fault fault) {
            return -100 - fault.place;
        } finally {
            tape = "";
        }
    }

    // ---- rows

    static int lengthOf(Object row) {
        return java.lang.reflect.Array.getLength(row);
    }

    static int sortOf(Object row) {
        return row instanceof byte[] ? 0 : row instanceof char[] ? 1 : 2;
    }

    static int get(Object row, int i) {
        return row instanceof byte[] b ? b[i] : row instanceof char[] c ? c[i] : (int) ((long[]) row)[i];
    }

    static void set(Object row, int i, int v) {
        if (row instanceof byte[] b) {
            b[i] = (byte) v;
        } else if (row instanceof char[] c) {
            c[i] = (char) v;
        } else {
            ((long[]) row)[i] = v;
        }
    }

    static boolean outside(Object row, long i, long n) {
        return n < 0 || i < 0 || i + n > lengthOf(row);
    }

    boolean sheet(int s) {
        return s >= 0 && s <= 3;
    }

    int makeSheet(int s, int sort, int n) {
        if (!sheet(s) || sort < -1 || sort > 2 || (sort != -1 && n > 40)) {
            return -1;
        }
        if (sort != -1 && n < 0) {
            return -14;
        }
        sheets[s] = sort == -1 ? null : sort == 0 ? new byte[n] : sort == 1 ? new char[n] : new long[n];
        return 1;
    }

    int copy(int s, int i, int t, int j, int n) {
        if (!sheet(s) || !sheet(t)) {
            return -1;
        }
        if (sheets[s] == null || sheets[t] == null) {
            return -11;
        }
        if (sortOf(sheets[s]) != sortOf(sheets[t])) {
            return -13;
        }
        if (outside(sheets[s], i, n) || outside(sheets[t], j, n)) {
            return -12;
        }
        int[] all = new int[n];
        for (int k = 0; k < n; k++) {
            all[k] = get(sheets[s], i + k);
        }
        for (int k = 0; k < n; k++) {
            set(sheets[t], j + k, all[k]);
        }
        return n;
    }

    int lay(int s, int t, int i) {
        if (!slot(s) || !sheet(t)) {
            return -1;
        }
        if (slots[s] == null || sheets[t] == null) {
            return -11;
        }
        String read = slots[s].read();
        if (sheets[t] instanceof long[]) {
            return -13;
        }
        if (outside(sheets[t], i, read.length())) {
            return -12;
        }
        for (int p = 0; p < read.length(); p++) {
            set(sheets[t], i + p, read.charAt(p) - '0');
        }
        return read.length();
    }

    int take(int t, int i, int k, int s) {
        if (!slot(s) || !sheet(t) || k < 0 || k > 6) {
            return -1;
        }
        if (sheets[t] == null) {
            return -11;
        }
        if (sheets[t] instanceof long[]) {
            return -13;
        }
        if (outside(sheets[t], i, k)) {
            return -12;
        }
        StringBuilder word = new StringBuilder();
        for (int p = 0; p < k; p++) {
            int letter = get(sheets[t], i + p);
            if (letter < 1 || letter > n) {
                return -1;
            }
            word.append(letter);
        }
        slots[s] = new Thing(word.toString(), null);
        return number(word.toString());
    }

    // ---- the calls

    int word(int s, int digits) {
        String told = digits == 0 ? "" : Integer.toString(digits);
        if (!slot(s) || !told.matches("[1-" + n + "]{0,6}")) {
            return -1;
        }
        slots[s] = new Thing(told, null);
        return told.length();
    }

    int feed(long eight, int many) {
        if (many < 1 || many > 8) {
            return -1;
        }
        if (tape.length() + many > 60) {
            return -2;
        }
        for (int k = 0; k < many; k++) {
            tape += (char) (eight >> 8 * k & 255);
        }
        return tape.length();
    }

    int letters(int v) {
        if (v < 2 || v > 5) {
            return -1;
        }
        int was = n;
        n = v;
        slots = v == was ? slots : new Thing[6];
        return was;
    }

    int of(Thing t, int what) {
        String read = t.read();
        int[] answers = {t.rows == null ? 0 : 1, read.length(), number(read), number(contentOf(read)),
            t.rows == null ? 0 : t.rows.size()};
        return answers[what];
    }

    int act(int s, int act, int i, int to) {
        if (!slot(s) || !slot(to) || act < 0 || act > 5 || (act != 5 && !step(i))) {
            return -1;
        }
        if (slots[s] == null) {
            return -11;
        }
        Thing was = slots[s];
        Thing next = done(was, act, i);
        if (act < 2 && next.same(was)) {
            return -3;
        }
        slots[to] = next;
        return next.same(was) ? 0 : 1;
    }

    int highest(String read, int what) {
        List<String> way = wayUp(read);
        String top = way.get(way.size() - 1);
        return what == 0 ? way.size() - 1 : number(what == 1 ? top : contentOf(top));
    }

    int way(String read) {
        List<String> up = wayUp(read);
        String at = up.get(up.size() - 1);
        int times = 0;
        for (int i = n - 1; i >= 1; i--) {
            String next = lowered(at, i);
            if (next != null) {
                at = next;
                times++;
                i = n;
            }
        }
        return times;
    }

    int lot(int s, int k) {
        if (!slot(s) || k < 0 || k > 6) {
            return -1;
        }
        String word = "";
        for (int p = 0; p < k; p++) {
            z = z * 1103515245 + 12345;
            word += 1 + (z >>> 16) % n;
        }
        slots[s] = new Thing(word, null);
        return number(word);
    }

    int lettersInAll() {
        int all = 0;
        for (Thing thing : slots) {
            all += thing == null ? 0 : thing.read().length();
        }
        return all;
    }

    int many(int what) {
        int set = 0;
        for (int s = 0; s < 6; s++) {
            set += slots[s] == null ? 0 : 1 << s;
        }
        int[] answers = {n, set, lettersInAll(), tape.length()};
        return what < 0 || what > 3 ? -1 : answers[what];
    }

    void like(Model other) {
        n = other.n;
        z = other.z;
        slots = other.slots.clone();
        worths = other.worths.clone();
    }

    int again() {
        if (kept == null) {
            return -3;
        }
        like(kept);
        return lettersInAll();
    }

    int keep() {
        kept = new Model();
        kept.like(this);
        return 1;
    }

    int worth(int letter, int v) {
        if (letter < 1 || letter > n || v < 0 || v > 99) {
            return -1;
        }
        int was = worths[letter - 1];
        worths[letter - 1] = v;
        return was;
    }

    int put(int t, int i, int v) {
        if (!sheet(t)) {
            return -1;
        }
        if (sheets[t] == null) {
            return -11;
        }
        if (outside(sheets[t], i, 1)) {
            return -12;
        }
        set(sheets[t], i, v);
        return 1;
    }

    int item(int t, int sort, int i) {
        if (!sheet(t) || sort < 0 || sort > 2) {
            return -1;
        }
        if (sheets[t] == null) {
            return -11;
        }
        if (sortOf(sheets[t]) != sort) {
            return -13;
        }
        return outside(sheets[t], i, 1) ? -12 : get(sheets[t], i);
    }

    int bare(int s) {
        if (!slot(s)) {
            return -1;
        }
        int held = slots[s] == null ? 0 : 1;
        slots[s] = null;
        return held;
    }

    int seed(int v) {
        int was = z;
        z = v;
        return was;
    }

    // ---- a call by its name

    int answer(String name, int[] a, long eight) {
        return switch (name) {
            case "letters" -> letters(a[0]);
            case "word" -> word(a[0], a[1]);
            case "feed" -> feed(eight, a[0]);
            case "tableau" -> tableau(a[0]);
            case "bare" -> bare(a[0]);
            case "act" -> act(a[0], a[1], a[2], a[3]);
            case "acts" -> acts(a[0]);
            case "count" -> count(a[0], a[1]);
            case "together" -> together(a[0], a[1], a[2]);
            case "worth" -> worth(a[0], a[1]);
            case "worthOf" -> worthOf(a[0]);
            case "seed" -> seed(a[0]);
            case "lot" -> lot(a[0], a[1]);
            case "sheet" -> makeSheet(a[0], a[1], a[2]);
            case "put" -> put(a[0], a[1], a[2]);
            case "item" -> item(a[0], a[1], a[2]);
            case "copy" -> copy(a[0], a[1], a[2], a[3], a[4]);
            case "lay" -> lay(a[0], a[1], a[2]);
            case "take" -> take(a[0], a[1], a[2], a[3]);
            case "many" -> many(a[0]);
            case "keep" -> keep();
            case "again" -> again();
            default -> ofThing(name, a);
        };
    }

    /** The calls that ask something of a thing; BAD is told ahead of the rest. */
    private int ofThing(String name, int[] a) {
        boolean bad = switch (name) {
            case "of" -> a[1] < 0 || a[1] > 4;
            case "taken" -> a[1] < 0 || a[1] > 1;
            case "signs" -> !step(a[1]) || a[2] < 0 || a[2] > 1;
            case "highest" -> a[1] < 0 || a[1] > 2;
            case "all" -> a[1] < -1;
            case "pair" -> !step(a[1]) || !step(a[2]) || a[1] == a[2];
            case "insert", "alike" -> !slot(a[1]);
            default -> false;
        };
        if (bad || !slot(a[0])) {
            return -1;
        }
        Thing thing = slots[a[0]];
        if (thing == null || (name.equals("alike") && slots[a[1]] == null)) {
            return -11;
        }
        String read = thing.read();
        switch (name) {
            case "of":
                return of(thing, a[1]);
            case "row":
                return thing.rows == null ? -13 : place(thing.rows, a[1]);
            case "taken":
                return (a[1] == 1) == (thing.rows != null) ? read.length() : -13;
            case "signs":
                return howMany(read, a[1], a[1] + a[2]);
            case "highest":
                return highest(read, a[1]);
            case "all":
                List<String> all = family(read);
                return a[1] == -1 ? all.size() : a[1] < all.size() ? number(all.get(a[1])) : -3;
            case "stands":
                return family(read).indexOf(read);
            case "way":
                return way(read);
            case "pair":
                boolean can = raised(read, a[1]) != null && raised(read, a[2]) != null;
                return can ? pairOf(read, a[1], a[2]) : -3;
            case "insert":
                slots[a[1]] = inserted(read);
                return slots[a[1]].rows.size();
            case "record":
                return place(insertion(read).get(1), a[1]);
            default:
                return inserted(read).same(inserted(slots[a[1]].read())) ? 1 : 0;
        }
    }

    private static int place(List<String> rows, int r) {
        return r < 0 || r >= rows.size() ? -12 : Integer.parseInt(rows.get(r));
    }
}
