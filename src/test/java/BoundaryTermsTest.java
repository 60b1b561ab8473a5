import java.util.LinkedHashMap;
import java.util.Map;

/** The boundary cases of "What it is" and of "Terms": which answer comes, and that nothing is changed. */
public final class BoundaryTermsTest {
    private static final Edges EDGES = new Edges();
    private static final int BAD = Edges.BAD, FULL = Edges.FULL, NONE = Edges.NONE;
    private static final int NOTHING = Edges.NOTHING, OUTSIDE = Edges.OUTSIDE, UNLIKE = Edges.UNLIKE;
    private static final int MIN = Edges.MIN, MAX = Edges.MAX;

    private static void refused(String sentence, Edges.Call call, int want) {
        EDGES.refused(sentence, Edges::rich, call, want);
    }

    /** "An object is used for at most 512 calls after it has been made". */
    private static void the512thCallIsAnswered() {
        RaisedTableaux x = new RaisedTableaux();
        x.letters(5);
        for (int k = 0; k < 254; k++) {
            x.lot(k % 6, 6);
            EDGES.due("512 calls: a dear one", x.all(k % 6, 0) > 0 ? 1 : 0, 1);
        }
        EDGES.due("512 calls: the 510th", x.word(0, 211111), 6);
        EDGES.due("512 calls: the 511th", x.all(0, 419), 545555);
        EDGES.due("512 calls: the 512th", x.all(0, 420), NONE);
    }

    /** Every call that names a slot that must hold a thing. */
    private static Map<String, Edges.CallFor> callsOfHeldSlots() {
        Map<String, Edges.CallFor> calls = new LinkedHashMap<>();
        for (int what = 0; what <= 4; what++) {
            int asked = what;
            calls.put("of " + what, (x, slot) -> x.of(slot, asked));
        }
        calls.put("row", (x, slot) -> x.row(slot, 0));
        calls.put("taken for a word", (x, slot) -> x.taken(slot, 0));
        calls.put("taken for a tableau", (x, slot) -> x.taken(slot, 1));
        calls.put("signs, low", (x, slot) -> x.signs(slot, 1, 0));
        calls.put("signs, high", (x, slot) -> x.signs(slot, 3, 1));
        for (int act = 0; act <= 5; act++) {
            int done = act;
            calls.put("act " + act + " from", (x, slot) -> x.act(slot, done, 1, 0));
        }
        calls.put("acts", (x, slot) -> x.acts(slot));
        for (int what = 0; what <= 2; what++) {
            int asked = what;
            calls.put("highest " + what, (x, slot) -> x.highest(slot, asked));
        }
        calls.put("all, how many", (x, slot) -> x.all(slot, -1));
        calls.put("all, the first", (x, slot) -> x.all(slot, 0));
        calls.put("stands", (x, slot) -> x.stands(slot));
        calls.put("way", (x, slot) -> x.way(slot));
        calls.put("pair", (x, slot) -> x.pair(slot, 1, 2));
        calls.put("insert from", (x, slot) -> x.insert(slot, 0));
        calls.put("record", (x, slot) -> x.record(slot, 0));
        calls.put("alike, the first", (x, slot) -> x.alike(slot, 0));
        calls.put("alike, the other", (x, slot) -> x.alike(0, slot));
        calls.put("alike, both", (x, slot) -> x.alike(slot, slot));
        calls.put("lay", (x, slot) -> x.lay(slot, 1, 0));
        return calls;
    }

    /** Every call that names a slot that may hold nothing. */
    private static Map<String, Edges.CallFor> callsOfOtherSlots() {
        Map<String, Edges.CallFor> calls = new LinkedHashMap<>();
        calls.put("word", (x, slot) -> x.word(slot, 12));
        calls.put("tableau", (x, slot) -> x.tableau(slot));
        calls.put("bare", (x, slot) -> x.bare(slot));
        calls.put("act to", (x, slot) -> x.act(0, 1, 1, slot));
        calls.put("turn to", (x, slot) -> x.act(0, 5, 1, slot));
        calls.put("insert to", (x, slot) -> x.insert(0, slot));
        calls.put("lot", (x, slot) -> x.lot(slot, 6));
        calls.put("take", (x, slot) -> x.take(0, 0, 4, slot));
        return calls;
    }

    private static Map<String, Edges.CallFor> callsOfSheets() {
        Map<String, Edges.CallFor> calls = new LinkedHashMap<>();
        calls.put("put", (x, sheet) -> x.put(sheet, 0, 1));
        for (int sort = 0; sort <= 2; sort++) {
            int asked = sort;
            calls.put("item " + sort, (x, sheet) -> x.item(sheet, asked, 0));
        }
        calls.put("copy from", (x, sheet) -> x.copy(sheet, 0, 1, 0, 1));
        calls.put("copy to", (x, sheet) -> x.copy(0, 0, sheet, 0, 1));
        calls.put("copy from and to", (x, sheet) -> x.copy(sheet, 0, sheet, 0, 0));
        calls.put("lay", (x, sheet) -> x.lay(0, sheet, 0));
        calls.put("take", (x, sheet) -> x.take(sheet, 0, 1, 0));
        return calls;
    }

    /** "SLOTS 0 to 5": BAD, "there is no such thing". */
    private static void slotsAre0To5() {
        callsOfHeldSlots().forEach((name, call) ->
                EDGES.refusedForEach(name + ": no such slot", Edges.NO_SLOTS, Edges::rich, call, BAD));
        callsOfOtherSlots().forEach((name, call) ->
                EDGES.refusedForEach(name + ": no such slot", Edges.NO_SLOTS, Edges::rich, call, BAD));
        for (int slot = 0; slot <= 5; slot++) {
            RaisedTableaux x = new RaisedTableaux();
            EDGES.due("slot " + slot + " is one", x.word(slot, 321), 3);
            EDGES.due("slot " + slot + " alone holds it", x.many(1), 1 << slot);
        }
    }

    /** "-11 nothing where something is asked": a slot that holds nothing. */
    private static void nothingInASlot() {
        callsOfHeldSlots().forEach((name, call) ->
                refused(name + ": nothing in the slot", x -> call.on(x, 5), NOTHING));
    }

    /** "SHEETS 0 to 3", "or missing": BAD and -11. */
    private static void sheetsAre0To3() {
        callsOfSheets().forEach((name, call) -> {
            EDGES.refusedForEach(name + ": no such sheet", Edges.NO_SHEETS, Edges::rich, call, BAD);
            refused(name + ": a missing sheet", x -> call.on(x, 3), NOTHING);
        });
        for (int sheet = 0; sheet <= 3; sheet++) {
            RaisedTableaux x = new RaisedTableaux();
            EDGES.due("sheet " + sheet + " is missing at first", x.put(sheet, 0, 1), NOTHING);
            EDGES.due("sheet " + sheet + " is one", x.sheet(sheet, 0, 1), 1);
            EDGES.due("sheet " + sheet + " has a place", x.put(sheet, 0, 1), 1);
        }
    }

    /** "but that THE TAPE is used up by tableau() and acts(), unless they answer BAD or -11". */
    private static void whenTheTapeIsUsedUp() {
        RaisedTableaux x = Edges.after(Edges::rich);
        EDGES.due("BAD", x.tableau(6), BAD);
        EDGES.due("BAD of acts", x.acts(-1), BAD);
        EDGES.due("-11 of acts", x.acts(5), NOTHING);
        EDGES.due("by none of these it is used up", x.many(3), 4);
        EDGES.due("a tableau", x.tableau(5), 3);
        EDGES.due("uses it up", x.many(3), 0);
        EDGES.due("a fault", Edges.told(x, 5, "1x"), -101);
        EDGES.due("of tableau uses it up", x.many(3), 0);
        EDGES.due("acts", Edges.done(x, 5, "turn;"), 1);
        EDGES.due("use it up", x.many(3), 0);
        EDGES.due("a fault", Edges.done(x, 5, "turn;x"), -105);
        EDGES.due("of acts uses it up", x.many(3), 0);
        EDGES.due("what comes next is the first byte again", Edges.told(x, 5, "y"), -100);
        Edges.tell(x, "1");
        x.letters(3);
        x.keep();
        x.again();
        x.lot(0, 2);
        x.act(0, 5, 0, 0);
        x.insert(0, 1);
        x.bare(0);
        EDGES.due("no other call uses it up", x.many(3), 1);
    }

    /** "of several the first named", ahead of -11. */
    private static void badAheadOfNothing() {
        refused("of: what and nothing", x -> x.of(5, 5), BAD);
        refused("taken: as and nothing", x -> x.taken(5, 2), BAD);
        refused("signs: i and nothing", x -> x.signs(5, 4, 0), BAD);
        refused("signs: what and nothing", x -> x.signs(5, 1, 2), BAD);
        refused("act: act and nothing", x -> x.act(5, 6, 1, 0), BAD);
        refused("act: i and nothing", x -> x.act(5, 0, 4, 0), BAD);
        refused("act: to and nothing", x -> x.act(5, 5, 1, 6), BAD);
        refused("highest: what and nothing", x -> x.highest(5, 3), BAD);
        refused("all: i and nothing", x -> x.all(5, -2), BAD);
        refused("pair: i and nothing", x -> x.pair(5, 0, 1), BAD);
        refused("pair: j and nothing", x -> x.pair(5, 1, 4), BAD);
        refused("pair: they are one and nothing", x -> x.pair(5, 2, 2), BAD);
        refused("insert: to and nothing", x -> x.insert(5, 6), BAD);
        refused("alike: the other slot and nothing", x -> x.alike(5, 6), BAD);
        refused("alike: the first slot and nothing", x -> x.alike(6, 5), BAD);
        refused("item: sort and missing", x -> x.item(3, 3, 0), BAD);
        refused("copy: no sheet and missing", x -> x.copy(3, 0, 4, 0, 0), BAD);
        refused("copy: missing and no sheet", x -> x.copy(4, 0, 3, 0, 0), BAD);
        refused("lay: no slot and missing", x -> x.lay(6, 3, 0), BAD);
        refused("lay: no sheet and nothing", x -> x.lay(5, 4, 0), BAD);
        refused("take: k and missing", x -> x.take(3, 0, 7, 0), BAD);
        refused("take: no slot and missing", x -> x.take(3, 0, 1, 6), BAD);
    }

    /** "of several the first named", ahead of NONE, FULL, -12, -13, -14 and OVER. */
    private static void badAheadOfOthers() {
        refused("act: to and it can't be raised", x -> x.act(4, 0, 1, 6), BAD);
        refused("act: i and it can't be raised", x -> x.act(4, 0, 4, 0), BAD);
        refused("pair: they are one and can't be raised", x -> x.pair(4, 1, 1), BAD);
        refused("row: no slot and no row", x -> x.row(6, 9), BAD);
        refused("record: no slot and no row", x -> x.record(-1, 9), BAD);
        refused("taken: as of a word", x -> x.taken(0, -1), BAD);
        refused("sheet: no sheet and below 0", x -> x.sheet(4, 0, -1), BAD);
        refused("sheet: no sort and below 0", x -> x.sheet(0, 3, -1), BAD);
        refused("put: no sheet and no place", x -> x.put(4, 99, 1), BAD);
        refused("item: no sort and no place", x -> x.item(0, 3, 99), BAD);
        refused("item: no sheet and no place", x -> x.item(4, 0, 99), BAD);
        refused("copy: no sheet, unlike, outside", x -> x.copy(0, 99, 4, 99, -1), BAD);
        refused("lay: no slot to longs, outside", x -> x.lay(6, 2, 99), BAD);
        refused("take: k of longs, outside", x -> x.take(2, 99, 7, 0), BAD);
        EDGES.refused("feed: n and full", x -> Edges.tell(x, " ".repeat(60)), x -> x.feed(0, 9), BAD);
        EDGES.refused("feed: n below 1 and full", x -> Edges.tell(x, " ".repeat(60)), x -> x.feed(0, 0), BAD);
        EDGES.refused("feed: full", x -> Edges.tell(x, " ".repeat(60)), x -> x.feed(0, 1), FULL);
    }

    /** "of several the first named": -11 ahead of NONE, -13 and -12, and -13 ahead of -12. */
    private static void hostRefusalsInTheirOrder() {
        refused("row: nothing and no row", x -> x.row(5, -1), NOTHING);
        refused("row: of a word and no row", x -> x.row(0, -1), UNLIKE);
        refused("row: of a word of none", x -> x.row(2, 0), UNLIKE);
        refused("row: of a tableau of none", x -> x.row(3, 0), OUTSIDE);
        refused("record: nothing and no row", x -> x.record(5, -1), NOTHING);
        refused("all: nothing and not so many", x -> x.all(5, MAX), NOTHING);
        refused("put: missing and no place", x -> x.put(3, 99, 1), NOTHING);
        refused("item: missing, no place", x -> x.item(3, 1, 99), NOTHING);
        refused("item: unlike, no place", x -> x.item(0, 1, 99), UNLIKE);
        refused("copy: from missing, outside", x -> x.copy(3, -1, 0, -1, -1), NOTHING);
        refused("copy: to missing, outside", x -> x.copy(0, -1, 3, -1, -1), NOTHING);
        refused("copy: unlike, outside", x -> x.copy(0, -1, 1, -1, -1), UNLIKE);
        refused("copy: unlike, outside, the other way", x -> x.copy(1, MAX, 2, MIN, MAX), UNLIKE);
        refused("lay: nothing to longs, outside", x -> x.lay(5, 2, 99), NOTHING);
        refused("lay: to missing, outside", x -> x.lay(0, 3, 99), NOTHING);
        refused("lay: to longs, outside", x -> x.lay(0, 2, 99), UNLIKE);
        refused("take: of missing, outside", x -> x.take(3, 99, 1, 0), NOTHING);
        refused("take: of longs, outside", x -> x.take(2, 99, 1, 0), UNLIKE);
        refused("take: outside, and no letter", x -> x.take(0, 4, 6, 0), OUTSIDE);
        refused("take: no letter", x -> x.take(0, 3, 2, 0), BAD);
    }

    /** A fault of the text is told only where there is a slot, and a thing in it for acts. */
    private static void refusalsAheadOfFaults() {
        Edges.Past faulty = x -> {
            Edges.richButForTape(x);
            Edges.tell(x, "?");
        };
        EDGES.refused("tableau: no slot and a fault", faulty, x -> x.tableau(6), BAD);
        EDGES.refused("acts: no slot and a fault", faulty, x -> x.acts(6), BAD);
        EDGES.refused("acts: nothing and a fault", faulty, x -> x.acts(5), NOTHING);
    }

    public static void main(String[] args) {
        the512thCallIsAnswered();
        slotsAre0To5();
        nothingInASlot();
        sheetsAre0To3();
        whenTheTapeIsUsedUp();
        badAheadOfNothing();
        badAheadOfOthers();
        hostRefusalsInTheirOrder();
        refusalsAheadOfFaults();
        EDGES.end();
    }
}
