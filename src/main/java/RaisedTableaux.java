import java.util.Arrays;

/**
 * Words and tableaux that are raised and lowered. The document tells what each call does;
 * everything that a call works with is made once, here or in the constructors of the classes
 * inside, because all calls of a run share one room and nothing in it is given back.
 */
public final class RaisedTableaux {
    public static final int BAD = -1, FULL = -2, NONE = -3, OVER = -16;

    private static final int NOTHING = -11, OUTSIDE = -12, UNLIKE = -13, BELOW = -14;
    private static final int FAULT = -100;

    private static final int LEAST_N = 2, FIRST_N = 3, GREATEST_N = 5;
    private static final int MOST_LETTERS = 6;
    private static final int SLOTS = 6;
    private static final int SHEETS = 4, MOST_PLACES = 40;
    private static final int MOST_BYTES = 60, BYTES_AT_ONCE = 8;
    private static final int GREATEST_WORTH = 99;
    private static final long GREATEST_ANSWER = 2147483647L;

    private static final int NO_SORT = -1, BYTES = 0, CHARS = 1, LONGS = 2;
    private static final int RAISE = 0, LOWER = 1, REFLECT = 2, TOP = 3, FOOT = 4, TURN = 5;

    /** Six letters can move by at most four each; the loops of moves end here at the latest. */
    private static final int MOST_MOVES = 30;
    /** Above the 420 members of the greatest family (six letters of 1 to 5, rows of 4 and 2). */
    private static final int MOST_MEMBERS = 512;
    /** A mark for each of the 5 to the 6th words, 64 in a long. */
    private static final int MARK_LONGS = 245;

    private final State now = new State();
    private final State kept = new State();
    private boolean hasKept;
    private final Tape tape = new Tape();
    private final Sheet[] sheets = new Sheet[SHEETS];

    private final Moves moves = new Moves();
    private final Grid grid = new Grid();
    private final Family family = new Family();
    private final Fillings fillings = new Fillings();
    private final Shape firstShape = new Shape();
    private final Shape secondShape = new Shape();
    private final Shape thirdShape = new Shape();
    private final Thing draft = new Thing();
    private final Thing rival = new Thing();

    public RaisedTableaux() {
        for (int s = 0; s < SHEETS; s++) {
            sheets[s] = new Sheet();
        }
    }

    // ---- things

    public int letters(int v) {
        if (v < LEAST_N || v > GREATEST_N) {
            return BAD;
        }
        int was = now.n;
        if (v != was) {
            now.n = v;
            now.emptySlots();
        }
        return was;
    }

    public int word(int slot, int digits) {
        if (!isSlot(slot) || !draft.becomesWord(digits, now.n)) {
            return BAD;
        }
        now.slots[slot].becomeLike(draft);
        return draft.size;
    }

    public int feed(long eight, int n) {
        if (n < 1 || n > BYTES_AT_ONCE) {
            return BAD;
        }
        if (tape.length + n > MOST_BYTES) {
            return FULL;
        }
        tape.append(eight, n);
        return tape.length;
    }

    public int tableau(int slot) {
        if (!isSlot(slot)) {
            return BAD;
        }
        boolean told = tape.readsTableau(grid, now.n);
        tape.useUp();
        if (!told) {
            return FAULT - tape.at;
        }
        Thing thing = now.slots[slot];
        grid.writeTo(thing);
        return thing.size;
    }

    public int bare(int slot) {
        if (!isSlot(slot)) {
            return BAD;
        }
        int held = isHeld(slot) ? 1 : 0;
        now.slots[slot].becomeNothing();
        return held;
    }

    public int of(int slot, int what) {
        if (!isSlot(slot) || what < 0 || what > 4) {
            return BAD;
        }
        if (!isHeld(slot)) {
            return NOTHING;
        }
        Thing thing = now.slots[slot];
        switch (what) {
            case 0:
                return thing.kind == Thing.TABLEAU ? 1 : 0;
            case 1:
                return thing.size;
            case 2:
                return thing.number();
            case 3:
                return thing.content(now.n);
            default:
                return thing.rows;
        }
    }

    public int row(int slot, int r) {
        if (!isSlot(slot)) {
            return BAD;
        }
        if (!isHeld(slot)) {
            return NOTHING;
        }
        Thing thing = now.slots[slot];
        if (thing.kind != Thing.TABLEAU) {
            return UNLIKE;
        }
        if (r < 0 || r >= thing.rows) {
            return OUTSIDE;
        }
        return thing.numberOfRow(r);
    }

    public int taken(int slot, int as) {
        if (!isSlot(slot) || as < 0 || as > 1) {
            return BAD;
        }
        if (!isHeld(slot)) {
            return NOTHING;
        }
        Thing thing = now.slots[slot];
        int asked = as == 1 ? Thing.TABLEAU : Thing.WORD;
        return thing.kind == asked ? thing.size : UNLIKE;
    }

    // ---- acts

    public int signs(int slot, int i, int what) {
        if (!isSlot(slot) || !isStep(i) || what < 0 || what > 1) {
            return BAD;
        }
        if (!isHeld(slot)) {
            return NOTHING;
        }
        moves.look(now.slots[slot], i);
        return what == 0 ? moves.low : moves.high;
    }

    public int act(int slot, int act, int i, int to) {
        if (!isSlot(slot) || !isSlot(to) || act < RAISE || act > TURN) {
            return BAD;
        }
        if (act != TURN && !isStep(i)) {
            return BAD;
        }
        if (!isHeld(slot)) {
            return NOTHING;
        }
        draft.becomeLike(now.slots[slot]);
        boolean changed = moves.perform(act, draft, i, now.n);
        if (!changed && (act == RAISE || act == LOWER)) {
            return NONE;
        }
        now.slots[to].becomeLike(draft);
        return changed ? 1 : 0;
    }

    public int acts(int slot) {
        if (!isSlot(slot)) {
            return BAD;
        }
        if (!isHeld(slot)) {
            return NOTHING;
        }
        // the acts are done to a draft, for a text with a fault must leave the thing as it is
        draft.becomeLike(now.slots[slot]);
        tape.rewind();
        int changes = 0;
        boolean told = true;
        for (int k = 0; k < MOST_BYTES && told && tape.goesOn(); k++) {
            told = tape.readsAct(now.n);
            if (told && moves.perform(tape.act, draft, tape.step, now.n)) {
                changes++;
            }
        }
        tape.useUp();
        if (!told) {
            return FAULT - tape.at;
        }
        now.slots[slot].becomeLike(draft);
        return changes;
    }

    public int highest(int slot, int what) {
        if (!isSlot(slot) || what < 0 || what > 2) {
            return BAD;
        }
        if (!isHeld(slot)) {
            return NOTHING;
        }
        draft.becomeLike(now.slots[slot]);
        int raised = moves.raiseToHighest(draft, now.n);
        if (what == 0) {
            return raised;
        }
        return what == 1 ? draft.number() : draft.content(now.n);
    }

    public int all(int slot, int i) {
        if (!isSlot(slot) || i < -1) {
            return BAD;
        }
        if (!isHeld(slot)) {
            return NOTHING;
        }
        family.gather(now.slots[slot], now.n, moves);
        if (i == -1) {
            return family.members;
        }
        return i < family.members ? family.numberOfMember(i) : NONE;
    }

    public int stands(int slot) {
        if (!isSlot(slot)) {
            return BAD;
        }
        if (!isHeld(slot)) {
            return NOTHING;
        }
        family.gather(now.slots[slot], now.n, moves);
        return family.placeOf(now.slots[slot]);
    }

    public int way(int slot) {
        if (!isSlot(slot)) {
            return BAD;
        }
        if (!isHeld(slot)) {
            return NOTHING;
        }
        draft.becomeLike(now.slots[slot]);
        moves.raiseToHighest(draft, now.n);
        return moves.lowerToLowest(draft, now.n);
    }

    public int pair(int slot, int i, int j) {
        if (!isSlot(slot) || !isStep(i) || !isStep(j) || i == j) {
            return BAD;
        }
        if (!isHeld(slot)) {
            return NOTHING;
        }
        Thing thing = now.slots[slot];
        if (!moves.canRaise(thing, i) || !moves.canRaise(thing, j)) {
            return NONE;
        }
        if (meetInTwo(thing, i, j)) {
            return 1;
        }
        return meetInFour(thing, i, j) ? 2 : 0;
    }

    // ---- inserted, shapes

    public int insert(int slot, int to) {
        if (!isSlot(slot) || !isSlot(to)) {
            return BAD;
        }
        if (!isHeld(slot)) {
            return NOTHING;
        }
        grid.insertAll(now.slots[slot]);
        grid.writeTo(now.slots[to]);
        return grid.rows;
    }

    public int record(int slot, int r) {
        if (!isSlot(slot)) {
            return BAD;
        }
        if (!isHeld(slot)) {
            return NOTHING;
        }
        grid.insertAll(now.slots[slot]);
        if (r < 0 || r >= grid.rows) {
            return OUTSIDE;
        }
        return grid.turnsOfRow(r);
    }

    public int alike(int slot, int other) {
        if (!isSlot(slot) || !isSlot(other)) {
            return BAD;
        }
        if (!isHeld(slot) || !isHeld(other)) {
            return NOTHING;
        }
        grid.insertAll(now.slots[slot]);
        grid.writeTo(draft);
        grid.insertAll(now.slots[other]);
        grid.writeTo(rival);
        return draft.isSameAs(rival) ? 1 : 0;
    }

    public int count(int shape, int content) {
        if (!firstShape.isTold(shape, now.n) || !fillings.allowContent(content, now.n)) {
            return BAD;
        }
        if (fillings.allowedInAll(now.n) != firstShape.size) {
            return 0;
        }
        fillings.worthOneEach();
        return (int) fillings.sum(firstShape, now.n);
    }

    public int together(int shape, int other, int third) {
        if (!firstShape.isTold(shape, now.n) || !secondShape.isTold(other, now.n)
                || !thirdShape.isTold(third, now.n)) {
            return BAD;
        }
        int size = firstShape.size + secondShape.size;
        if (size > MOST_LETTERS) {
            return BAD;
        }
        if (size != thirdShape.size || !fillings.allowDifference(thirdShape, firstShape)) {
            return 0;
        }
        fillings.worthOneEach();
        return fillings.countHighest(secondShape, firstShape, moves, now.n);
    }

    public int worth(int letter, int v) {
        if (!isLetter(letter) || v < 0 || v > GREATEST_WORTH) {
            return BAD;
        }
        int was = now.worths[letter];
        now.worths[letter] = v;
        return was;
    }

    public int worthOf(int shape) {
        if (!firstShape.isTold(shape, now.n)) {
            return BAD;
        }
        fillings.allowAny();
        fillings.worthAs(now.worths);
        long sum = fillings.sum(firstShape, now.n);
        return sum > GREATEST_ANSWER ? OVER : (int) sum;
    }

    // ---- rows, lots, what is kept

    public int seed(int v) {
        int was = now.z;
        now.z = v;
        return was;
    }

    public int lot(int slot, int k) {
        if (!isSlot(slot) || k < 0 || k > MOST_LETTERS) {
            return BAD;
        }
        Thing thing = now.slots[slot];
        thing.becomeWordOf(k);
        for (int p = 0; p < k; p++) {
            thing.read[p] = 1 + now.draw() % now.n;
        }
        return thing.number();
    }

    public int sheet(int sheet, int sort, int n) {
        if (!isSheet(sheet) || sort < NO_SORT || sort > LONGS) {
            return BAD;
        }
        if (sort == NO_SORT) {
            sheets[sheet].becomeMissing();
            return 1;
        }
        if (n > MOST_PLACES) {
            return BAD;
        }
        if (n < 0) {
            return BELOW;
        }
        sheets[sheet].becomeRow(sort, n);
        return 1;
    }

    public int put(int sheet, int i, int v) {
        if (!isSheet(sheet)) {
            return BAD;
        }
        Sheet row = sheets[sheet];
        if (row.isMissing()) {
            return NOTHING;
        }
        if (!row.hasPlaces(i, 1)) {
            return OUTSIDE;
        }
        row.write(i, v);
        return 1;
    }

    public int item(int sheet, int sort, int i) {
        if (!isSheet(sheet) || sort < BYTES || sort > LONGS) {
            return BAD;
        }
        Sheet row = sheets[sheet];
        if (row.isMissing()) {
            return NOTHING;
        }
        if (row.sort != sort) {
            return UNLIKE;
        }
        if (!row.hasPlaces(i, 1)) {
            return OUTSIDE;
        }
        return (int) row.places[i];
    }

    public int copy(int sheet, int i, int other, int j, int n) {
        if (!isSheet(sheet) || !isSheet(other)) {
            return BAD;
        }
        Sheet from = sheets[sheet];
        Sheet to = sheets[other];
        if (from.isMissing() || to.isMissing()) {
            return NOTHING;
        }
        if (from.sort != to.sort) {
            return UNLIKE;
        }
        if (!from.hasPlaces(i, n) || !to.hasPlaces(j, n)) {
            return OUTSIDE;
        }
        System.arraycopy(from.places, i, to.places, j, n);
        return n;
    }

    public int lay(int slot, int sheet, int i) {
        if (!isSlot(slot) || !isSheet(sheet)) {
            return BAD;
        }
        Sheet row = sheets[sheet];
        if (!isHeld(slot) || row.isMissing()) {
            return NOTHING;
        }
        if (row.sort == LONGS) {
            return UNLIKE;
        }
        Thing thing = now.slots[slot];
        if (!row.hasPlaces(i, thing.size)) {
            return OUTSIDE;
        }
        for (int p = 0; p < thing.size; p++) {
            row.write(i + p, thing.read[p]);
        }
        return thing.size;
    }

    public int take(int sheet, int i, int k, int slot) {
        if (!isSheet(sheet) || k < 0 || k > MOST_LETTERS || !isSlot(slot)) {
            return BAD;
        }
        Sheet row = sheets[sheet];
        if (row.isMissing()) {
            return NOTHING;
        }
        if (row.sort == LONGS) {
            return UNLIKE;
        }
        if (!row.hasPlaces(i, k)) {
            return OUTSIDE;
        }
        draft.becomeWordOf(k);
        for (int p = 0; p < k; p++) {
            int letter = (int) row.places[i + p];
            if (!isLetter(letter)) {
                return BAD;
            }
            draft.read[p] = letter;
        }
        now.slots[slot].becomeLike(draft);
        return draft.number();
    }

    public int many(int what) {
        switch (what) {
            case 0:
                return now.n;
            case 1:
                return now.heldSlots();
            case 2:
                return now.lettersInAll();
            case 3:
                return tape.length;
            default:
                return BAD;
        }
    }

    public int keep() {
        kept.becomeLike(now);
        hasKept = true;
        return 1;
    }

    public int again() {
        if (!hasKept) {
            return NONE;
        }
        now.becomeLike(kept);
        return now.lettersInAll();
    }

    // ---- what the calls ask of their numbers

    private static boolean isSlot(int slot) {
        return slot >= 0 && slot < SLOTS;
    }

    private static boolean isSheet(int sheet) {
        return sheet >= 0 && sheet < SHEETS;
    }

    private boolean isHeld(int slot) {
        return now.slots[slot].kind != Thing.NO_THING;
    }

    private boolean isLetter(int letter) {
        return letter >= 1 && letter <= now.n;
    }

    /** An i that things can be raised and lowered for. */
    private boolean isStep(int i) {
        return i >= 1 && i < now.n;
    }

    private boolean meetInTwo(Thing thing, int i, int j) {
        draft.becomeLike(thing);
        rival.becomeLike(thing);
        return moves.raiseOnce(draft, i) && moves.raiseOnce(draft, j)
                && moves.raiseOnce(rival, j) && moves.raiseOnce(rival, i)
                && draft.isSameAs(rival);
    }

    private boolean meetInFour(Thing thing, int i, int j) {
        draft.becomeLike(thing);
        rival.becomeLike(thing);
        return raisesOutAndBack(draft, i, j) && raisesOutAndBack(rival, j, i)
                && draft.isSameAs(rival);
    }

    private boolean raisesOutAndBack(Thing thing, int i, int j) {
        return moves.raiseOnce(thing, i) && moves.raiseOnce(thing, j)
                && moves.raiseOnce(thing, j) && moves.raiseOnce(thing, i);
    }

    private static int howManyDigits(int number) {
        int rest = number;
        int digits = 0;
        for (int k = 0; k < 10 && rest > 0; k++) {
            rest /= 10;
            digits++;
        }
        return digits;
    }

    /** What keep() keeps. */
    private static final class State {
        int n = FIRST_N;
        int z = 1;
        final Thing[] slots = new Thing[SLOTS];
        /** By letter; place 0 is not used. */
        final int[] worths = new int[GREATEST_N + 1];

        State() {
            for (int s = 0; s < SLOTS; s++) {
                slots[s] = new Thing();
            }
            Arrays.fill(worths, 1);
        }

        void becomeLike(State other) {
            n = other.n;
            z = other.z;
            for (int s = 0; s < SLOTS; s++) {
                slots[s].becomeLike(other.slots[s]);
            }
            System.arraycopy(other.worths, 0, worths, 0, GREATEST_N + 1);
        }

        void emptySlots() {
            for (int s = 0; s < SLOTS; s++) {
                slots[s].becomeNothing();
            }
        }

        int heldSlots() {
            int set = 0;
            for (int s = 0; s < SLOTS; s++) {
                if (slots[s].kind != Thing.NO_THING) {
                    set |= 1 << s;
                }
            }
            return set;
        }

        int lettersInAll() {
            int sum = 0;
            for (int s = 0; s < SLOTS; s++) {
                sum += slots[s].size;
            }
            return sum;
        }

        int draw() {
            z = z * 1103515245 + 12345;
            return z >>> 16;
        }
    }

    /** A word, a tableau, or (in a slot) nothing; its letters stand as they are read. */
    private static final class Thing {
        static final int NO_THING = 0, WORD = 1, TABLEAU = 2;

        int kind = NO_THING;
        int size;
        final int[] read = new int[MOST_LETTERS];
        int rows;
        /** How long the rows are, the highest first. */
        final int[] lengths = new int[MOST_LETTERS];

        void becomeNothing() {
            kind = NO_THING;
            size = 0;
            rows = 0;
        }

        /** The letters are to be written into read then. */
        void becomeWordOf(int letters) {
            kind = WORD;
            size = letters;
            rows = 0;
        }

        /** False, if the digits tell no word: what this is then is not told. */
        boolean becomesWord(int digits, int n) {
            int letters = howManyDigits(digits);
            if (digits < 0 || letters > MOST_LETTERS) {
                return false;
            }
            becomeWordOf(letters);
            int rest = digits;
            for (int p = letters - 1; p >= 0; p--) {
                read[p] = rest % 10;
                rest /= 10;
                if (read[p] < 1 || read[p] > n) {
                    return false;
                }
            }
            return true;
        }

        void becomeLike(Thing other) {
            kind = other.kind;
            size = other.size;
            rows = other.rows;
            System.arraycopy(other.read, 0, read, 0, size);
            System.arraycopy(other.lengths, 0, lengths, 0, rows);
        }

        boolean isSameAs(Thing other) {
            if (kind != other.kind || size != other.size || rows != other.rows) {
                return false;
            }
            for (int p = 0; p < size; p++) {
                if (read[p] != other.read[p]) {
                    return false;
                }
            }
            for (int r = 0; r < rows; r++) {
                if (lengths[r] != other.lengths[r]) {
                    return false;
                }
            }
            return true;
        }

        int number() {
            return numberFrom(0, size);
        }

        int numberOfRow(int r) {
            int start = 0;
            for (int below = r + 1; below < rows; below++) {
                start += lengths[below];
            }
            return numberFrom(start, lengths[r]);
        }

        private int numberFrom(int start, int letters) {
            int number = 0;
            for (int p = start; p < start + letters; p++) {
                number = number * 10 + read[p];
            }
            return number;
        }

        int content(int n) {
            int number = 0;
            for (int letter = 1; letter <= n; letter++) {
                int found = 0;
                for (int p = 0; p < size; p++) {
                    if (read[p] == letter) {
                        found++;
                    }
                }
                number = number * 10 + found;
            }
            return number;
        }
    }

    /** Rows in which a tableau grows, by insertion or from a text. */
    private static final class Grid {
        int rows;
        int size;
        private final int[] lengths = new int[MOST_LETTERS];
        private final int[] cells = new int[MOST_LETTERS * MOST_LETTERS];
        /** For each cell, as which one it came, from 1. */
        private final int[] turns = new int[MOST_LETTERS * MOST_LETTERS];

        void clear() {
            rows = 0;
            size = 0;
            Arrays.fill(lengths, 0);
        }

        boolean hasRow(int row) {
            return row < rows;
        }

        /** Whether the letter can stand at the end of that row, which may be one more than there are. */
        boolean takes(int row, int letter) {
            if (size >= MOST_LETTERS || row >= MOST_LETTERS) {
                return false;
            }
            int column = lengths[row];
            if (column > 0 && letter < cellAt(row, column - 1)) {
                return false;
            }
            return row == 0
                    || (column < lengths[row - 1] && letter > cellAt(row - 1, column));
        }

        void append(int row, int letter) {
            int cell = row * MOST_LETTERS + lengths[row];
            size++;
            cells[cell] = letter;
            turns[cell] = size;
            lengths[row]++;
            rows = Math.max(rows, row + 1);
        }

        void insertAll(Thing thing) {
            clear();
            for (int p = 0; p < thing.size; p++) {
                insertLetter(thing.read[p]);
            }
        }

        private void insertLetter(int letter) {
            int moving = letter;
            for (int row = 0; row < MOST_LETTERS; row++) {
                int column = firstGreater(row, moving);
                if (column == lengths[row]) {
                    append(row, moving);
                    return;
                }
                int cell = row * MOST_LETTERS + column;
                int out = cells[cell];
                cells[cell] = moving;
                moving = out;
            }
        }

        /** The length of the row, if there is none greater. */
        private int firstGreater(int row, int letter) {
            for (int column = 0; column < lengths[row]; column++) {
                if (cellAt(row, column) > letter) {
                    return column;
                }
            }
            return lengths[row];
        }

        private int cellAt(int row, int column) {
            return cells[row * MOST_LETTERS + column];
        }

        void writeTo(Thing thing) {
            thing.kind = Thing.TABLEAU;
            thing.size = size;
            thing.rows = rows;
            System.arraycopy(lengths, 0, thing.lengths, 0, rows);
            int p = 0;
            for (int row = rows - 1; row >= 0; row--) {
                System.arraycopy(cells, row * MOST_LETTERS, thing.read, p, lengths[row]);
                p += lengths[row];
            }
        }

        int turnsOfRow(int row) {
            int number = 0;
            for (int column = 0; column < lengths[row]; column++) {
                number = number * 10 + turns[row * MOST_LETTERS + column];
            }
            return number;
        }
    }

    /** What raises and lowers things. */
    private static final class Moves {
        /** What look() saw: how many are left of each, and where those stand that would move. */
        int low;
        int high;
        private int lastLow;
        private int firstHigh;

        private final Thing before = new Thing();
        private final Grid grid = new Grid();

        void look(Thing thing, int i) {
            lookFromLeft(thing, i);
            lookFromRight(thing, i);
        }

        /** From the left each i strikes out an i + 1 ahead of it, if one is open. */
        private void lookFromLeft(Thing thing, int i) {
            low = 0;
            lastLow = -1;
            int open = 0;
            for (int p = 0; p < thing.size; p++) {
                int letter = thing.read[p];
                if (letter == i + 1) {
                    open++;
                } else if (letter == i && open > 0) {
                    open--;
                } else if (letter == i) {
                    low++;
                    lastLow = p;
                }
            }
        }

        /** From the right each i + 1 strikes out an i behind it, if one is open. */
        private void lookFromRight(Thing thing, int i) {
            high = 0;
            firstHigh = -1;
            int open = 0;
            for (int p = thing.size - 1; p >= 0; p--) {
                int letter = thing.read[p];
                if (letter == i) {
                    open++;
                } else if (letter == i + 1 && open > 0) {
                    open--;
                } else if (letter == i + 1) {
                    high++;
                    firstHigh = p;
                }
            }
        }

        boolean canRaise(Thing thing, int i) {
            lookFromRight(thing, i);
            return high > 0;
        }

        /** False (and the thing stays), if it can not be raised. */
        boolean raiseOnce(Thing thing, int i) {
            lookFromRight(thing, i);
            if (firstHigh < 0) {
                return false;
            }
            thing.read[firstHigh] = i;
            return true;
        }

        /** False (and the thing stays), if it can not be lowered. */
        boolean lowerOnce(Thing thing, int i) {
            lookFromLeft(thing, i);
            if (lastLow < 0) {
                return false;
            }
            thing.read[lastLow] = i + 1;
            return true;
        }

        /** Whether the thing is another one then; i does not matter for a turn. */
        boolean perform(int act, Thing thing, int i, int n) {
            if (act == RAISE) {
                return raiseOnce(thing, i);
            }
            if (act == LOWER) {
                return lowerOnce(thing, i);
            }
            before.becomeLike(thing);
            if (act == TURN) {
                turn(thing, n);
            } else {
                moveAlong(act, thing, i);
            }
            return !thing.isSameAs(before);
        }

        private void moveAlong(int act, Thing thing, int i) {
            look(thing, i);
            int lowest = low;
            int uppermost = high;
            if (act == TOP) {
                raiseTimes(thing, i, uppermost);
            } else if (act == FOOT) {
                lowerTimes(thing, i, lowest);
            } else if (act == REFLECT) {
                lowerTimes(thing, i, lowest - uppermost);
                raiseTimes(thing, i, uppermost - lowest);
            }
        }

        private void raiseTimes(Thing thing, int i, int times) {
            for (int k = 0; k < times; k++) {
                raiseOnce(thing, i);
            }
        }

        private void lowerTimes(Thing thing, int i, int times) {
            for (int k = 0; k < times; k++) {
                lowerOnce(thing, i);
            }
        }

        /** Needs the thing in before, too, to read it from there the other way. */
        private void turn(Thing thing, int n) {
            for (int p = 0; p < thing.size; p++) {
                thing.read[p] = n + 1 - before.read[thing.size - 1 - p];
            }
            if (thing.kind == Thing.TABLEAU) {
                grid.insertAll(thing);
                grid.writeTo(thing);
            }
        }

        /** How often it was raised. */
        int raiseToHighest(Thing thing, int n) {
            for (int times = 0; times < MOST_MOVES; times++) {
                if (!raisesForLeast(thing, n)) {
                    return times;
                }
            }
            return MOST_MOVES;
        }

        private boolean raisesForLeast(Thing thing, int n) {
            for (int i = 1; i < n; i++) {
                if (raiseOnce(thing, i)) {
                    return true;
                }
            }
            return false;
        }

        /** How often it was lowered. */
        int lowerToLowest(Thing thing, int n) {
            for (int times = 0; times < MOST_MOVES; times++) {
                if (!lowersForLeast(thing, n)) {
                    return times;
                }
            }
            return MOST_MOVES;
        }

        private boolean lowersForLeast(Thing thing, int n) {
            for (int i = 1; i < n; i++) {
                if (lowerOnce(thing, i)) {
                    return true;
                }
            }
            return false;
        }

        boolean isHighest(Thing thing, int n) {
            for (int i = 1; i < n; i++) {
                if (canRaise(thing, i)) {
                    return false;
                }
            }
            return true;
        }
    }

    /**
     * ALL OF a thing, as marks on codes. A code is what is read as a number to the base n, its
     * letters less 1: codes of one length stand in the order of the numbers that are read.
     */
    private static final class Family {
        int members;
        private int n = FIRST_N;
        private int size;
        private final long[] marks = new long[MARK_LONGS];
        private final int[] codes = new int[MOST_MEMBERS];
        private final Thing member = new Thing();
        private final Thing lowered = new Thing();

        /**
         * Everything that can be reached is raised to the same highest one, so that lowering from
         * there finds all. Families share no member: one that holds the thing need not be made anew.
         */
        void gather(Thing thing, int n, Moves moves) {
            if (members > 0 && this.n == n && size == thing.size && isMarked(codeOf(thing))) {
                return;
            }
            this.n = n;
            size = thing.size;
            members = 0;
            Arrays.fill(marks, 0L);
            lowered.becomeLike(thing);
            moves.raiseToHighest(lowered, n);
            admit(codeOf(lowered));
            for (int at = 0; at < members && at < MOST_MEMBERS; at++) {
                readCode(codes[at]);
                admitLowered(moves);
            }
        }

        private void admitLowered(Moves moves) {
            for (int i = 1; i < n; i++) {
                lowered.becomeLike(member);
                if (moves.lowerOnce(lowered, i)) {
                    admit(codeOf(lowered));
                }
            }
        }

        private void admit(int code) {
            if (isMarked(code) || members >= MOST_MEMBERS) {
                return;
            }
            marks[code >> 6] |= 1L << (code & 63);
            codes[members] = code;
            members++;
        }

        private boolean isMarked(int code) {
            return (marks[code >> 6] >>> (code & 63) & 1L) != 0L;
        }

        private int codeOf(Thing thing) {
            int code = 0;
            for (int p = 0; p < thing.size; p++) {
                code = code * n + thing.read[p] - 1;
            }
            return code;
        }

        /** Into member. */
        private void readCode(int code) {
            member.becomeWordOf(size);
            int rest = code;
            for (int p = size - 1; p >= 0; p--) {
                member.read[p] = 1 + rest % n;
                rest /= n;
            }
        }

        int placeOf(Thing thing) {
            int code = codeOf(thing);
            int ahead = 0;
            for (int k = 0; k < code >> 6; k++) {
                ahead += Long.bitCount(marks[k]);
            }
            long lesser = (1L << (code & 63)) - 1L;
            return ahead + Long.bitCount(marks[code >> 6] & lesser);
        }

        int numberOfMember(int place) {
            int ahead = 0;
            for (int k = 0; k < MARK_LONGS; k++) {
                int here = Long.bitCount(marks[k]);
                if (ahead + here > place) {
                    readCode((k << 6) + bitOf(marks[k], place - ahead));
                    return member.number();
                }
                ahead += here;
            }
            return NONE;
        }

        /** Which bit of a long is the one that has so many set bits ahead of it. */
        private static int bitOf(long set, int ahead) {
            long rest = set;
            for (int k = 0; k < ahead; k++) {
                rest &= rest - 1L;
            }
            return Long.numberOfTrailingZeros(rest);
        }
    }

    /** How long rows are. */
    private static final class Shape {
        int rows;
        int size;
        final int[] lengths = new int[MOST_LETTERS];

        /** False, if the digits tell no shape: what this is then is not told. */
        boolean isTold(int digits, int n) {
            rows = howManyDigits(digits);
            if (digits < 0 || rows > n) {
                return false;
            }
            size = 0;
            int rest = digits;
            int below = 1;
            for (int r = rows - 1; r >= 0; r--) {
                lengths[r] = rest % 10;
                rest /= 10;
                if (lengths[r] < below) {
                    return false;
                }
                below = lengths[r];
                size += lengths[r];
            }
            return size <= MOST_LETTERS;
        }

        int lengthOf(int row) {
            return row < rows ? lengths[row] : 0;
        }
    }

    /** All tableaux of a shape that keep to what letters are allowed, one after the other. */
    private static final class Fillings {
        /** How often each letter may still stand; place 0 is not used. */
        private final int[] allowed = new int[GREATEST_N + 1];
        private final int[] worths = new int[GREATEST_N + 1];
        /** The letters row by row, the highest row first. */
        private final int[] cells = new int[MOST_LETTERS];
        private int n;
        /** Behind what is read of each tableau, where only those count that are highest so. */
        private Shape behind;
        private Moves moves;
        private final Thing joined = new Thing();

        void allowAny() {
            Arrays.fill(allowed, MOST_LETTERS);
        }

        /** False, if the digits tell no content. */
        boolean allowContent(int digits, int n) {
            if (digits < 0 || howManyDigits(digits) > n) {
                return false;
            }
            int rest = digits;
            for (int letter = n; letter >= 1; letter--) {
                allowed[letter] = rest % 10;
                rest /= 10;
            }
            return allowedInAll(n) <= MOST_LETTERS;
        }

        /** False, if the lesser shape is not within the greater one. */
        boolean allowDifference(Shape greater, Shape lesser) {
            for (int letter = 1; letter <= GREATEST_N; letter++) {
                allowed[letter] = greater.lengthOf(letter - 1) - lesser.lengthOf(letter - 1);
                if (allowed[letter] < 0) {
                    return false;
                }
            }
            return true;
        }

        int allowedInAll(int n) {
            int sum = 0;
            for (int letter = 1; letter <= n; letter++) {
                sum += allowed[letter];
            }
            return sum;
        }

        void worthOneEach() {
            Arrays.fill(worths, 1);
        }

        void worthAs(int[] given) {
            System.arraycopy(given, 0, worths, 0, GREATEST_N + 1);
        }

        long sum(Shape shape, int n) {
            this.n = n;
            behind = null;
            return sumFrom(this, shape, 0, 0, 0, 1L);
        }

        int countHighest(Shape shape, Shape behind, Moves moves, int n) {
            this.n = n;
            this.behind = behind;
            this.moves = moves;
            return (int) sumFrom(this, shape, 0, 0, 0, 1L);
        }

        /** The worths of all that can be made of the cells so far, of which there are as many as told. */
        private static long sumFrom(Fillings f, Shape shape, int cell, int row, int column, long product) {
            if (cell >= shape.size || cell >= MOST_LETTERS) {
                return f.counts(shape) ? product : 0L;
            }
            if (column >= shape.lengthOf(row)) {
                return row < shape.rows ? sumFrom(f, shape, cell, row + 1, 0, product) : 0L;
            }
            long sum = 0L;
            for (int letter = f.leastLetter(shape, cell, row, column); letter <= f.n; letter++) {
                if (f.allowed[letter] > 0) {
                    f.allowed[letter]--;
                    f.cells[cell] = letter;
                    sum += sumFrom(f, shape, cell + 1, row, column + 1, product * f.worths[letter]);
                    f.allowed[letter]++;
                }
            }
            return sum;
        }

        private int leastLetter(Shape shape, int cell, int row, int column) {
            int least = 1;
            if (column > 0) {
                least = cells[cell - 1];
            }
            if (row > 0) {
                least = Math.max(least, cells[cell - shape.lengthOf(row - 1)] + 1);
            }
            return least;
        }

        private boolean counts(Shape shape) {
            if (behind == null || moves == null) {
                return true;
            }
            join(shape, behind);
            return moves.isHighest(joined, n);
        }

        private void join(Shape shape, Shape behind) {
            joined.becomeWordOf(shape.size + behind.size);
            int end = shape.size;
            int p = 0;
            for (int row = shape.rows - 1; row >= 0; row--) {
                end -= shape.lengths[row];
                System.arraycopy(cells, end, joined.read, p, shape.lengths[row]);
                p += shape.lengths[row];
            }
            for (int row = behind.rows - 1; row >= 0; row--) {
                for (int k = 0; k < behind.lengths[row]; k++) {
                    joined.read[p] = row + 1;
                    p++;
                }
            }
        }
    }

    /** Bytes, and the place up to which they are read: where reading fails, that of the fault. */
    private static final class Tape {
        private static final int BLANK = 32;

        int length;
        int at;
        /** The act that was read latest, and for which i. */
        int act;
        int step;
        private final int[] bytes = new int[MOST_BYTES];

        void append(long eight, int many) {
            for (int k = 0; k < many; k++) {
                bytes[length] = (int) (eight >>> (8 * k)) & 255;
                length++;
            }
        }

        /** The place stays, for a fault is told by it. */
        void useUp() {
            length = 0;
        }

        void rewind() {
            at = 0;
        }

        /** Whether there is something else than blanks; the place is there then, or at the end. */
        boolean goesOn() {
            while (at < length && bytes[at] == BLANK) {
                at++;
            }
            return at < length;
        }

        boolean readsTableau(Grid grid, int n) {
            grid.clear();
            rewind();
            int row = 0;
            for (int k = 0; k < MOST_BYTES && goesOn(); k++) {
                if (bytes[at] == '/' && grid.hasRow(row)) {
                    row++;
                } else if (isDigit(1, n) && grid.takes(row, bytes[at] - '0')) {
                    grid.append(row, bytes[at] - '0');
                } else {
                    return false;
                }
                at++;
            }
            return row == 0 || grid.hasRow(row);
        }

        boolean readsAct(int n) {
            return readsName() && (act == TURN || readsStep(n)) && readsSemicolon();
        }

        private boolean readsName() {
            goesOn();
            int end = endOfName();
            for (int k = RAISE; k <= TURN; k++) {
                if (isName(nameOf(k), end)) {
                    act = k;
                    at = end;
                    return true;
                }
            }
            return false;
        }

        private int endOfName() {
            int end = at;
            while (end < length && bytes[end] >= 'a' && bytes[end] <= 'z') {
                end++;
            }
            return end;
        }

        private boolean isName(String name, int end) {
            if (end - at != name.length()) {
                return false;
            }
            for (int k = 0; k < name.length(); k++) {
                if (bytes[at + k] != name.charAt(k)) {
                    return false;
                }
            }
            return true;
        }

        private static String nameOf(int act) {
            switch (act) {
                case RAISE:
                    return "raise";
                case LOWER:
                    return "lower";
                case REFLECT:
                    return "reflect";
                case TOP:
                    return "top";
                case FOOT:
                    return "foot";
                default:
                    return "turn";
            }
        }

        private boolean readsStep(int n) {
            if (!goesOn() || !isDigit(1, n - 1)) {
                return false;
            }
            step = bytes[at] - '0';
            at++;
            return true;
        }

        private boolean readsSemicolon() {
            if (!goesOn() || bytes[at] != ';') {
                return false;
            }
            at++;
            return true;
        }

        private boolean isDigit(int least, int most) {
            return bytes[at] >= '0' + least && bytes[at] <= '0' + most;
        }
    }

    /** A row of a sort, or missing; whatever the sort, longs hold what its places hold. */
    private static final class Sheet {
        int sort = NO_SORT;
        private int length;
        final long[] places = new long[MOST_PLACES];

        boolean isMissing() {
            return sort == NO_SORT;
        }

        void becomeMissing() {
            sort = NO_SORT;
            length = 0;
        }

        void becomeRow(int sort, int length) {
            this.sort = sort;
            this.length = length;
            Arrays.fill(places, 0L);
        }

        boolean hasPlaces(int from, int many) {
            return from >= 0 && many >= 0 && (long) from + many <= length;
        }

        void write(int place, int v) {
            if (sort == BYTES) {
                places[place] = (byte) v;
            } else if (sort == CHARS) {
                places[place] = (char) v;
            } else {
                places[place] = v;
            }
        }
    }
}
