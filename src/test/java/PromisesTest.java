import java.nio.charset.StandardCharsets;

/** One method for each promise of the document: ordinary inputs, its edges, wrong inputs. */
public final class PromisesTest {
    private static final int NOTHING = -11, OUTSIDE = -12, UNLIKE = -13, BELOW = -14;
    private static final int MIN = Integer.MIN_VALUE, MAX = Integer.MAX_VALUE;

    private static int wrong = 0;

    private static void due(String what, int got, int want) {
        if (got != want) {
            wrong++;
            System.out.println(what + " answered " + got + ", due is " + want);
        }
    }

    private static RaisedTableaux withLetters(int n) {
        RaisedTableaux x = new RaisedTableaux();
        x.letters(n);
        return x;
    }

    /** Puts a text on the tape, eight bytes at a time. */
    private static void tell(RaisedTableaux x, String text) {
        byte[] bytes = text.getBytes(StandardCharsets.ISO_8859_1);
        for (int at = 0; at < bytes.length; at += 8) {
            int n = Math.min(8, bytes.length - at);
            long eight = 0;
            for (int k = n - 1; k >= 0; k--) {
                eight = eight << 8 | (bytes[at + k] & 255);
            }
            x.feed(eight, n);
        }
    }

    private static int told(RaisedTableaux x, int slot, String text) {
        tell(x, text);
        return x.tableau(slot);
    }

    private static int done(RaisedTableaux x, int slot, String text) {
        tell(x, text);
        return x.acts(slot);
    }

    private static void promise1() {
        RaisedTableaux x = new RaisedTableaux();
        due("1: n", x.many(0), 3);
        due("1: slots", x.many(1), 0);
        due("1: letters of all", x.many(2), 0);
        due("1: tape", x.many(3), 0);
        for (int slot = 0; slot < 6; slot++) {
            due("1: a slot", x.of(slot, 0), NOTHING);
        }
        for (int sheet = 0; sheet < 4; sheet++) {
            due("1: a sheet is missing", x.item(sheet, 0, 0), NOTHING);
        }
        due("1: z", x.seed(5), 1);
        due("1: worth", x.worth(3, 2), 1);
        due("1: nothing kept", x.again(), RaisedTableaux.NONE);
        due("1: another object has its own state", new RaisedTableaux().seed(2), 1);
    }

    private static void promise2() {
        RaisedTableaux x = new RaisedTableaux();
        x.word(2, 321);
        due("2: the same n", x.letters(3), 3);
        due("2: slots stay with the same n", x.many(1), 4);
        due("2: below", x.letters(1), RaisedTableaux.BAD);
        due("2: above", x.letters(6), RaisedTableaux.BAD);
        due("2: least int", x.letters(MIN), RaisedTableaux.BAD);
        due("2: slots stay after BAD", x.many(1), 4);
        due("2: another n", x.letters(5), 3);
        due("2: slots are bare then", x.many(1), 0);
        due("2: n is another", x.many(0), 5);
        x.worth(5, 7);
        tell(x, "12");
        due("2: least n", x.letters(2), 5);
        due("2: the tape stays", x.many(3), 2);
        due("2: back", x.letters(5), 2);
        due("2: worths stay", x.worth(5, 1), 7);
    }

    private static void promise3() {
        RaisedTableaux x = new RaisedTableaux();
        due("3: a word", x.word(0, 312), 3);
        due("3: it is held", x.of(0, 2), 312);
        due("3: six letters", x.word(5, 333333), 6);
        due("3: seven", x.word(5, 1111111), RaisedTableaux.BAD);
        due("3: of none", x.word(1, 0), 0);
        due("3: of none is a thing", x.of(1, 0), 0);
        due("3: a letter above n", x.word(0, 14), RaisedTableaux.BAD);
        due("3: a letter 0", x.word(0, 101), RaisedTableaux.BAD);
        due("3: below 0", x.word(0, -1), RaisedTableaux.BAD);
        due("3: least int", x.word(0, MIN), RaisedTableaux.BAD);
        due("3: greatest int", x.word(0, MAX), RaisedTableaux.BAD);
        due("3: slot 6", x.word(6, 1), RaisedTableaux.BAD);
        due("3: slot -1", x.word(-1, 1), RaisedTableaux.BAD);
        due("3: BAD changes nothing", x.of(0, 2), 312);
    }

    private static void promise4() {
        RaisedTableaux x = new RaisedTableaux();
        due("4: none", x.feed(0, 0), RaisedTableaux.BAD);
        due("4: nine", x.feed(0, 9), RaisedTableaux.BAD);
        due("4: below", x.feed(0, -1), RaisedTableaux.BAD);
        for (int k = 1; k <= 7; k++) {
            due("4: eight", x.feed(0x2020202020202020L, 8), 8 * k);
        }
        due("4: five more than fit", x.feed(0, 5), RaisedTableaux.FULL);
        due("4: BAD is told ahead of FULL", x.feed(0, 9), RaisedTableaux.BAD);
        due("4: FULL changes nothing", x.many(3), 56);
        due("4: just full", x.feed(0x31202020L, 4), 60);
        due("4: one more", x.feed(0x31L, 1), RaisedTableaux.FULL);
        due("4: all are read", x.tableau(0), 1);
        due("4: the lowest is first", x.feed(0x3231L, 2), 2);
        due("4: 1, then 2", x.tableau(0), 2);
        due("4: as read", x.of(0, 2), 12);
        due("4: only the n lowest", x.feed(0x3231L, 1), 1);
        due("4: a 1 alone", x.tableau(0), 1);
        due("4: the highest byte", x.feed(0x3320202020202020L, 8), 8);
        due("4: a 3", x.tableau(0), 1);
        due("4: is read", x.of(0, 2), 3);
        due("4: bytes above 127 are no blanks", x.feed(0xA0L, 1), 1);
        due("4: and a fault", x.tableau(0), -100);
    }

    private static void promise5() {
        RaisedTableaux x = withLetters(4);
        due("5: three rows", told(x, 0, "113/24/3"), 6);
        due("5: the lowest is read first", x.of(0, 2), 324113);
        due("5: it is a tableau", x.of(0, 0), 1);
        due("5: the tape is used up", x.many(3), 0);
        due("5: blanks", told(x, 1, "  1 2 / 2 4  "), 4);
        due("5: nothing but blanks", told(x, 2, "   "), 0);
        due("5: is a tableau without any", x.of(2, 0), 1);
        due("5: an empty text", x.tableau(3), 0);
        due("5: less than on its left", told(x, 0, "121"), -102);
        due("5: greater than above", told(x, 0, "12/23 "), 4);
        due("5: not greater than above", told(x, 0, "12/12"), -103);
        due("5: equal to above", told(x, 0, "2/ 2"), -103);
        due("5: a longer row", told(x, 0, "11/222"), -105);
        due("5: a letter above n", told(x, 0, "15"), -101);
        due("5: 0", told(x, 0, "0"), -100);
        due("5: a seventh", told(x, 0, "111/222/3"), -108);
        due("5: a row must come", told(x, 0, "1/ "), -103);
        due("5: a row behind six letters must come", told(x, 0, "111111/"), -107);
        due("5: no row ahead", told(x, 0, " /1"), -101);
        due("5: two strokes", told(x, 0, "1//2"), -102);
        due("5: no brackets", told(x, 0, "[1]"), -100);
        due("5: no letters a to z", told(x, 0, "1 a"), -102);
        due("5: a fault uses up the tape", x.many(3), 0);
        due("5: a fault changes no slot", x.of(0, 2), 2312);
        tell(x, "1");
        due("5: slot 6", x.tableau(6), RaisedTableaux.BAD);
        due("5: slot -1", x.tableau(-1), RaisedTableaux.BAD);
        due("5: BAD leaves the tape", x.many(3), 1);
        RaisedTableaux five = withLetters(5);
        due("5: five rows", told(five, 0, "11/2/3/4/5"), 6);
        due("5: no sixth row", told(five, 0, "1/2/3/4/5/5"), -110);
        due("5: a longer row, first of all", told(new RaisedTableaux(), 0, "1/22"), -103);
        due("5: sixty bytes", told(five, 0, "1" + " ".repeat(58) + "2"), 2);
        due("5: sixty bytes, more must come", told(five, 0, "1" + " ".repeat(58) + "/"), -160);
    }

    private static void promise6() {
        RaisedTableaux x = new RaisedTableaux();
        x.word(3, 0);
        due("6: a word of none", x.bare(3), 1);
        due("6: it is bare then", x.bare(3), 0);
        due("6: holds nothing", x.of(3, 1), NOTHING);
        x.word(5, 123);
        due("6: letters go", x.bare(5), 1);
        due("6: none together", x.many(2), 0);
        due("6: slot 6", x.bare(6), RaisedTableaux.BAD);
        due("6: slot -1", x.bare(-1), RaisedTableaux.BAD);
    }

    private static void promise7() {
        RaisedTableaux x = withLetters(5);
        x.word(0, 55123);
        due("7: a word", x.of(0, 0), 0);
        due("7: letters", x.of(0, 1), 5);
        due("7: read", x.of(0, 2), 55123);
        due("7: content", x.of(0, 3), 11102);
        due("7: rows of a word", x.of(0, 4), 0);
        told(x, 1, "22/35/5");
        due("7: a tableau", x.of(1, 0), 1);
        due("7: its letters", x.of(1, 1), 5);
        due("7: its read", x.of(1, 2), 53522);
        due("7: its content has no first letter", x.of(1, 3), 2102);
        due("7: its rows", x.of(1, 4), 3);
        due("7: what 5", x.of(0, 5), RaisedTableaux.BAD);
        due("7: what -1", x.of(0, -1), RaisedTableaux.BAD);
        due("7: slot", x.of(6, 0), RaisedTableaux.BAD);
        due("7: BAD ahead of -11", x.of(2, 5), RaisedTableaux.BAD);
        due("7: nothing", x.of(2, 4), NOTHING);
    }

    private static void promise8() {
        RaisedTableaux x = new RaisedTableaux();
        told(x, 0, "112/23/3");
        due("8: highest", x.row(0, 0), 112);
        due("8: next", x.row(0, 1), 23);
        due("8: lowest", x.row(0, 2), 3);
        due("8: behind", x.row(0, 3), OUTSIDE);
        due("8: ahead", x.row(0, -1), OUTSIDE);
        due("8: far", x.row(0, MAX), OUTSIDE);
        due("8: nothing", x.row(1, -1), NOTHING);
        x.word(1, 12);
        due("8: a word", x.row(1, 9), UNLIKE);
        due("8: slot", x.row(6, 0), RaisedTableaux.BAD);
        due("8: slot below", x.row(-1, 0), RaisedTableaux.BAD);
    }

    private static void promise9() {
        RaisedTableaux x = new RaisedTableaux();
        x.word(0, 12);
        told(x, 1, "12/3");
        due("9: a word for a word", x.taken(0, 0), 2);
        due("9: a word for a tableau", x.taken(0, 1), UNLIKE);
        due("9: a tableau for a word", x.taken(1, 0), UNLIKE);
        due("9: a tableau for a tableau", x.taken(1, 1), 3);
        due("9: nothing", x.taken(2, 1), NOTHING);
        due("9: as 2", x.taken(2, 2), RaisedTableaux.BAD);
        due("9: as -1", x.taken(0, -1), RaisedTableaux.BAD);
        due("9: slot", x.taken(6, 0), RaisedTableaux.BAD);
    }

    private static void promise10() {
        RaisedTableaux x = withLetters(4);
        x.word(0, 121132);
        due("10: 1 (2 1) 1 . 2: low of 1", x.signs(0, 1, 0), 2);
        due("10: high of 1", x.signs(0, 1, 1), 1);
        due("10: 2 (3 2): low of 2", x.signs(0, 2, 0), 1);
        due("10: high of 2", x.signs(0, 2, 1), 0);
        due("10: 3: low of 3", x.signs(0, 3, 0), 1);
        x.word(1, 222111);
        due("10: all are struck out", x.signs(1, 1, 0) + x.signs(1, 1, 1), 0);
        x.word(2, 111222);
        due("10: none is struck out", x.signs(2, 1, 0) * 10 + x.signs(2, 1, 1), 33);
        told(x, 3, "1122/23");
        due("10: 2 . 1 1 2 2 of a tableau: low", x.signs(3, 1, 0), 1);
        due("10: high", x.signs(3, 1, 1), 2);
        due("10: i 0", x.signs(0, 0, 0), RaisedTableaux.BAD);
        due("10: i 4", x.signs(0, 4, 0), RaisedTableaux.BAD);
        due("10: what", x.signs(0, 1, 2), RaisedTableaux.BAD);
        due("10: what below", x.signs(0, 1, -1), RaisedTableaux.BAD);
        due("10: slot", x.signs(-1, 1, 0), RaisedTableaux.BAD);
        due("10: nothing", x.signs(5, 1, 0), NOTHING);
        due("10: BAD ahead of nothing", x.signs(5, 4, 0), RaisedTableaux.BAD);
    }

    private static void promise11() {
        RaisedTableaux x = withLetters(3);
        x.word(0, 112212);
        // of 1 1 2 2 1 2 the fourth and the fifth are struck out: 1 1 2 . . 2
        due("11: raise", x.act(0, 0, 1, 1), 1);
        due("11: the first 2 left", x.of(1, 2), 111212);
        due("11: the source stays", x.of(0, 2), 112212);
        due("11: lower", x.act(0, 1, 1, 1), 1);
        due("11: the last 1 left", x.of(1, 2), 122212);
        due("11: reflect, as many of each", x.act(0, 2, 1, 1), 0);
        due("11: comes all the same", x.of(1, 2), 112212);
        due("11: top", x.act(0, 3, 1, 1), 1);
        due("11: of it", x.of(1, 2), 111211);
        due("11: top of a top", x.act(1, 3, 1, 1), 0);
        due("11: reflect a top", x.act(1, 2, 1, 2), 1);
        due("11: is a foot", x.of(2, 2), 222212);
        due("11: reflect a foot", x.act(2, 2, 1, 2), 1);
        due("11: is a top", x.of(2, 2), 111211);
        due("11: foot", x.act(0, 4, 1, 1), 1);
        due("11: of it", x.of(1, 2), 222212);
        due("11: can't be lowered", x.act(1, 1, 1, 0), RaisedTableaux.NONE);
        due("11: NONE changes nothing", x.of(0, 2), 112212);
        due("11: can't be raised", x.act(0, 0, 2, 1), RaisedTableaux.NONE);
        due("11: into the same slot", x.act(0, 0, 1, 0), 1);
        due("11: it is there", x.of(0, 2), 111212);
        x.word(3, 1123);
        due("11: turn, whatever i", x.act(3, 5, 99, 4), 1);
        due("11: of a word", x.of(4, 2), 1233);
        x.word(3, 132);
        due("11: turn into the same slot", x.act(3, 5, 0, 3), 1);
        due("11: 2 1 3", x.of(3, 2), 213);
        x.word(3, 123);
        due("11: turn into itself", x.act(3, 5, -7, 3), 0);
        told(x, 4, "112/3");
        due("11: turn of a tableau", x.act(4, 5, 0, 5), 1);
        // 3 112 reads 3112, turned 2 3 3 1: 233, then 1 for 2
        due("11: first row", x.row(5, 0), 133);
        due("11: second row", x.row(5, 1), 2);
        due("11: turned again", x.act(5, 5, 0, 5), 1);
        due("11: as it was", x.row(5, 0), 112);
        due("11: as it was below", x.row(5, 1), 3);
        due("11: 3 and 2 are struck out", x.act(5, 0, 2, 5), RaisedTableaux.NONE);
        due("11: raise a tableau", x.act(5, 0, 1, 5), 1);
        due("11: rows as they were", x.row(5, 0), 111);
        due("11: rows as they were below", x.row(5, 1), 3);
        due("11: i 0", x.act(0, 0, 0, 0), RaisedTableaux.BAD);
        due("11: i n", x.act(0, 4, 3, 0), RaisedTableaux.BAD);
        due("11: act 6", x.act(0, 6, 1, 0), RaisedTableaux.BAD);
        due("11: act -1", x.act(0, -1, 1, 0), RaisedTableaux.BAD);
        due("11: slot", x.act(6, 0, 1, 0), RaisedTableaux.BAD);
        due("11: to", x.act(0, 0, 1, 6), RaisedTableaux.BAD);
        x.bare(1);
        due("11: nothing", x.act(1, 0, 1, 0), NOTHING);
        due("11: nothing to turn", x.act(1, 5, 9, 0), NOTHING);
        due("11: BAD ahead of nothing", x.act(1, 0, 9, 0), RaisedTableaux.BAD);
    }

    private static void promise12() {
        RaisedTableaux x = withLetters(3);
        x.word(0, 112);
        due("12: no acts", x.acts(0), 0);
        due("12: two that change, one that can't", done(x, 0, "raise 1; raise 1 ;lower 1;"), 2);
        due("12: done", x.of(0, 2), 112);
        due("12: without blanks", done(x, 0, "lower1;lower1;lower2;foot2;top1;"), 4);
        // 112 122 222 223 333; top for 1 finds no 2
        due("12: done too", x.of(0, 2), 333);
        due("12: turn", done(x, 0, " turn ; "), 1);
        due("12: turned", x.of(0, 2), 111);
        due("12: reflect", done(x, 0, "reflect 2;reflect 1;reflect 1;"), 2);
        due("12: there and back", x.of(0, 2), 111);
        due("12: the tape is used up", x.many(3), 0);
        due("12: no such name", done(x, 0, "raise 1;rises 1;"), -108);
        due("12: a longer name", done(x, 0, " raises 1;"), -101);
        due("12: a part of a name", done(x, 0, "lowe"), -100);
        due("12: a blank within a name", done(x, 0, "lo wer 1;"), -100);
        due("12: names without a blank between", done(x, 0, "turnturn;"), -100);
        due("12: capitals", done(x, 0, "Turn;"), -100);
        due("12: a capital behind", done(x, 0, "turN;"), -100);
        due("12: i 0", done(x, 0, "lower 0;"), -106);
        due("12: i n", done(x, 0, "lower 3;"), -106);
        due("12: i of two digits", done(x, 0, "lower 11;"), -107);
        due("12: no i", done(x, 0, "lower;"), -105);
        due("12: i by turn", done(x, 0, "turn 1;"), -105);
        due("12: the end for an i", done(x, 0, "lower  "), -107);
        due("12: the end for a stroke", done(x, 0, "lower 1 "), -108);
        due("12: the end by turn", done(x, 0, "turn"), -104);
        due("12: two ends", done(x, 0, "turn;;"), -105);
        due("12: a digit ahead", done(x, 0, "1"), -100);
        due("12: a fault behind acts does none of them", done(x, 0, "lower 1;turn;x"), -113);
        due("12: it stays", x.of(0, 2), 111);
        due("12: a fault uses up the tape", x.many(3), 0);
        tell(x, "turn;");
        due("12: nothing", x.acts(1), NOTHING);
        due("12: slot", x.acts(6), RaisedTableaux.BAD);
        due("12: slot below", x.acts(-1), RaisedTableaux.BAD);
        due("12: the tape stays", x.many(3), 5);
        due("12: and is read then", x.acts(0), 1);
        told(x, 2, "11/2");
        due("12: sixty bytes", done(x, 2, "turn;".repeat(12)), 12);
        due("12: a tableau is one still", x.taken(2, 1), 3);
        due("12: fifty-nine", done(x, 2, "turn;".repeat(11) + "turn"), -159);
    }

    private static void promise13() {
        RaisedTableaux x = withLetters(3);
        x.word(0, 233);
        // for 1: 133; for 2: 123 (its 1 does not matter), then 113 for 1, 112, 111
        due("13: how often", x.highest(0, 0), 5);
        due("13: read", x.highest(0, 1), 111);
        due("13: content", x.highest(0, 2), 300);
        x.word(1, 321);
        due("13: of itself", x.highest(1, 0), 0);
        due("13: its read", x.highest(1, 1), 321);
        due("13: its content", x.highest(1, 2), 111);
        told(x, 2, "23/3");
        due("13: a tableau", x.highest(2, 1), 211);
        due("13: its moves", x.highest(2, 0), 4);
        due("13: it stays", x.of(2, 2), 323);
        due("13: what 3", x.highest(0, 3), RaisedTableaux.BAD);
        due("13: what -1", x.highest(0, -1), RaisedTableaux.BAD);
        due("13: slot", x.highest(6, 0), RaisedTableaux.BAD);
        due("13: nothing", x.highest(3, 0), NOTHING);
        RaisedTableaux five = withLetters(5);
        five.word(0, 555555);
        due("13: the longest way", five.highest(0, 0), 24);
    }

    private static void promise14() {
        RaisedTableaux x = withLetters(3);
        x.word(0, 213);
        int[] want = {121, 131, 132, 221, 231, 232, 331, 332};
        x.word(1, 232);
        due("14: eight", x.all(1, -1), 8);
        for (int k = 0; k < want.length; k++) {
            due("14: member " + k, x.all(1, k), want[k]);
        }
        due("14: not so many", x.all(1, 8), RaisedTableaux.NONE);
        due("14: far from so many", x.all(1, MAX), RaisedTableaux.NONE);
        due("14: -2", x.all(1, -2), RaisedTableaux.BAD);
        due("14: another one of eight", x.all(0, -1), 8);
        due("14: its first", x.all(0, 0), 211);
        due("14: slot", x.all(6, 0), RaisedTableaux.BAD);
        due("14: nothing", x.all(2, 0), NOTHING);
        due("14: BAD ahead of nothing", x.all(2, -2), RaisedTableaux.BAD);
        x.word(2, 321);
        due("14: one alone", x.all(2, -1), 1);
        due("14: is it", x.all(2, 0), 321);
        RaisedTableaux five = withLetters(5);
        told(five, 0, "1111/22");
        due("14: most", five.all(0, -1), 420);
        due("14: the last of most", five.all(0, 419), 554455);
        x.word(3, 111);
        due("14: three alike", x.all(3, -1), 10);
        x.word(3, 11);
        due("14: two alike", x.all(3, -1), 6);
        due("14: first of two alike", x.all(3, 0), 11);
        five.letters(2);
        told(five, 0, "1111/22");
        due("14: by fewer letters", five.all(0, -1), 3);
    }

    private static void promise15() {
        RaisedTableaux x = withLetters(3);
        int[] members = {121, 131, 132, 221, 231, 232, 331, 332};
        for (int k = 0; k < members.length; k++) {
            x.word(0, members[k]);
            due("15: " + members[k], x.stands(0), k);
        }
        x.word(1, 0);
        due("15: of none", x.stands(1), 0);
        told(x, 1, "13/3");
        // the tableaux of its shape read 211 212 213 311 312 313 322 323
        due("15: a tableau", x.stands(1), 5);
        due("15: slot", x.stands(-1), RaisedTableaux.BAD);
        due("15: nothing", x.stands(2), NOTHING);
    }

    private static void promise16() {
        RaisedTableaux x = withLetters(3);
        x.word(0, 231);
        // from content 2 1 0 to content 0 1 2
        due("16: 121 to 332", x.way(0), 4);
        x.word(1, 0);
        due("16: of none", x.way(1), 0);
        x.word(1, 321);
        due("16: one alone", x.way(1), 0);
        told(x, 2, "112/3");
        due("16: a tableau", x.way(2), 6);
        due("16: it stays", x.of(2, 2), 3112);
        due("16: slot", x.way(6), RaisedTableaux.BAD);
        due("16: nothing", x.way(3), NOTHING);
        RaisedTableaux five = withLetters(5);
        five.word(0, 123);
        due("16: 111 to 555", five.way(0), 12);
    }

    private static void promise17() {
        RaisedTableaux x = withLetters(5);
        x.word(0, 24);
        due("17: far ones do not meet", x.pair(0, 1, 3), 1);
        due("17: nor the other way", x.pair(0, 3, 1), 1);
        due("17: can't be raised for 2", x.pair(0, 1, 2), RaisedTableaux.NONE);
        // 2 3: for 1 then 2: 13, 12; for 2 first: 22, then for 1: 12
        x.word(1, 23);
        due("17: near ones that do not meet", x.pair(1, 1, 2), 1);
        boolean four = false;
        for (int word = 1111; word <= 4444; word++) {
            if (x.word(2, word) == 4 && x.pair(2, 1, 2) == 2) {
                four = true;
                due("17: and the other way " + word, x.pair(2, 2, 1), 2);
            }
        }
        due("17: some meet in four", four ? 1 : 0, 1);
        due("17: i and j are one", x.pair(0, 1, 1), RaisedTableaux.BAD);
        due("17: i 0", x.pair(0, 0, 1), RaisedTableaux.BAD);
        due("17: j n", x.pair(0, 1, 5), RaisedTableaux.BAD);
        due("17: slot", x.pair(6, 1, 2), RaisedTableaux.BAD);
        due("17: nothing", x.pair(5, 1, 2), NOTHING);
        due("17: BAD ahead of nothing", x.pair(5, 2, 2), RaisedTableaux.BAD);
        x.word(3, 0);
        due("17: none to raise", x.pair(3, 1, 2), RaisedTableaux.NONE);
    }

    private static void promise18() {
        RaisedTableaux x = withLetters(4);
        x.word(0, 324131);
        // 3; 2/3; 24/3; 14/2/3; 13/24/3; 11/23/... 1 for 3, which goes for 4 below, which stands behind 3
        due("18: rows", x.insert(0, 1), 3);
        due("18: first", x.row(1, 0), 11);
        due("18: second", x.row(1, 1), 23);
        due("18: third", x.row(1, 2), 34);
        due("18: the source stays", x.of(0, 2), 324131);
        due("18: a tableau is itself", x.insert(1, 2), 3);
        due("18: as read", x.of(2, 2), x.of(1, 2));
        due("18: into the same slot", x.insert(0, 0), 3);
        due("18: it is a tableau", x.of(0, 0), 1);
        x.word(3, 112233);
        due("18: one row", x.insert(3, 3), 1);
        x.word(3, 4321);
        due("18: one column", x.insert(3, 3), 4);
        due("18: slot", x.insert(6, 0), RaisedTableaux.BAD);
        due("18: to", x.insert(0, -1), RaisedTableaux.BAD);
        due("18: nothing", x.insert(5, 0), NOTHING);
        due("18: -11 changes nothing", x.of(0, 4), 3);
    }

    private static void promise19() {
        RaisedTableaux x = withLetters(4);
        x.word(0, 324131);
        due("19: first", x.record(0, 0), 13);
        due("19: second", x.record(0, 1), 25);
        due("19: third", x.record(0, 2), 46);
        due("19: behind", x.record(0, 3), OUTSIDE);
        due("19: ahead", x.record(0, -1), OUTSIDE);
        told(x, 1, "11/2");
        due("19: of a tableau", x.record(1, 0), 13);
        due("19: of a tableau below", x.record(1, 1), 2);
        due("19: slot", x.record(6, 0), RaisedTableaux.BAD);
        due("19: nothing", x.record(2, 9), NOTHING);
    }

    private static void promise20() {
        RaisedTableaux x = new RaisedTableaux();
        x.word(0, 213);
        x.word(1, 231);
        x.word(2, 132);
        told(x, 3, "13/2");
        due("20: alike", x.alike(0, 1), 1);
        due("20: not alike", x.alike(0, 2), 0);
        due("20: with a tableau", x.alike(3, 1), 1);
        due("20: with itself", x.alike(2, 2), 1);
        x.word(4, 0);
        due("20: with none", x.alike(4, 2), 0);
        due("20: nothing", x.alike(0, 5), NOTHING);
        due("20: nothing first", x.alike(5, 0), NOTHING);
        due("20: slot", x.alike(5, 6), RaisedTableaux.BAD);
        due("20: slot first", x.alike(-1, 5), RaisedTableaux.BAD);
    }

    private static void promise21() {
        RaisedTableaux x = withLetters(5);
        due("21: standard ones", x.count(32, 11111), 5);
        due("21: 223/45 224/35 225/34", x.count(32, 2111), 3);
        due("21: the same content in another order", x.count(32, 11120), 3);
        due("21: rows above content", x.count(3, 11100), 1);
        due("21: none has it", x.count(111, 30000), 0);
        due("21: more letters in the content", x.count(21, 11110), 0);
        due("21: more letters in the shape", x.count(22, 11100), 0);
        due("21: of none", x.count(0, 0), 1);
        due("21: five rows", x.count(11111, 11111), 1);
        due("21: five rows of six", x.count(21111, 21111), 1);
        due("21: a longer row behind", x.count(12, 11100), RaisedTableaux.BAD);
        due("21: seven together", x.count(43, 11111), RaisedTableaux.BAD);
        due("21: a row of seven", x.count(7, 11111), RaisedTableaux.BAD);
        due("21: a row of none", x.count(20, 11000), RaisedTableaux.BAD);
        due("21: below 0", x.count(-1, 0), RaisedTableaux.BAD);
        due("21: six rows", x.count(111111, 11111), RaisedTableaux.BAD);
        due("21: a content of seven", x.count(3, 11113), RaisedTableaux.BAD);
        due("21: a content of a digit more", x.count(1, 100000), RaisedTableaux.BAD);
        due("21: a content below 0", x.count(0, -1), RaisedTableaux.BAD);
        due("21: greatest", x.count(MAX, MAX), RaisedTableaux.BAD);
        due("21: least", x.count(MIN, MIN), RaisedTableaux.BAD);
        x.letters(2);
        due("21: more rows than letters", x.count(111, 21), RaisedTableaux.BAD);
        due("21: two letters", x.count(31, 22), 1);
        due("21: more digits than letters", x.count(3, 111), RaisedTableaux.BAD);
    }

    private static void promise22() {
        RaisedTableaux x = withLetters(4);
        due("22: 21 by 21 in 321", x.together(21, 21, 321), 2);
        due("22: in 3111", x.together(21, 21, 3111), 1);
        due("22: in 2211", x.together(21, 21, 2211), 1);
        due("22: in 51", x.together(21, 21, 51), 0);
        due("22: rows of two", x.together(2, 2, 4), 1);
        due("22: columns", x.together(11, 11, 1111), 1);
        due("22: columns by rows", x.together(11, 2, 22), 0);
        due("22: columns by rows in 31", x.together(11, 2, 31), 1);
        due("22: none and none", x.together(0, 0, 0), 1);
        due("22: by none", x.together(321, 0, 321), 1);
        due("22: by none in another", x.together(321, 0, 222), 0);
        due("22: other sizes", x.together(21, 1, 321), 0);
        due("22: seven together", x.together(31, 21, 321), RaisedTableaux.BAD);
        due("22: first", x.together(12, 1, 22), RaisedTableaux.BAD);
        due("22: second", x.together(1, 12, 22), RaisedTableaux.BAD);
        due("22: third", x.together(1, 1, -2), RaisedTableaux.BAD);
        due("22: third of seven", x.together(1, 1, 43), RaisedTableaux.BAD);
        x.letters(3);
        due("22: more rows than letters", x.together(21, 21, 2211), RaisedTableaux.BAD);
    }

    private static void promise23() {
        RaisedTableaux x = new RaisedTableaux();
        due("23: at first", x.worth(1, 99), 1);
        due("23: then", x.worth(1, 0), 99);
        due("23: 0", x.worth(1, 5), 0);
        due("23: each its own", x.worth(2, 5), 1);
        due("23: letter 0", x.worth(0, 1), RaisedTableaux.BAD);
        due("23: letter above n", x.worth(4, 1), RaisedTableaux.BAD);
        due("23: 100", x.worth(1, 100), RaisedTableaux.BAD);
        due("23: below 0", x.worth(1, -1), RaisedTableaux.BAD);
        due("23: BAD changes nothing", x.worth(1, 1), 5);
    }

    private static void promise24() {
        RaisedTableaux x = new RaisedTableaux();
        x.worth(1, 2);
        x.worth(2, 3);
        x.worth(3, 5);
        due("24: one letter", x.worthOf(1), 10);
        due("24: a column of two", x.worthOf(11), 6 + 10 + 15);
        due("24: a row of two", x.worthOf(2), 4 + 9 + 25 + 31);
        due("24: a column of three", x.worthOf(111), 30);
        due("24: 21", x.worthOf(21), 10 * 31 - 30);
        due("24: none", x.worthOf(0), 1);
        due("24: no shape", x.worthOf(12), RaisedTableaux.BAD);
        due("24: more rows than letters", x.worthOf(1111), RaisedTableaux.BAD);
        due("24: below 0", x.worthOf(-3), RaisedTableaux.BAD);
        RaisedTableaux two = withLetters(2);
        two.worth(1, 0);
        two.worth(2, 36);
        due("24: 36 to the 6th", two.worthOf(6), RaisedTableaux.OVER);
        two.worth(2, 35);
        due("24: 35 to the 6th", two.worthOf(6), 1838265625);
        two.worth(2, 73);
        due("24: 73 to the 5th", two.worthOf(5), 2073071593);
        two.worth(2, 74);
        due("24: 74 to the 5th", two.worthOf(5), RaisedTableaux.OVER);
        two.worth(1, 64);
        two.worth(2, 64);
        due("24: one above the bound", two.worthOf(32), RaisedTableaux.OVER);
        RaisedTableaux five = withLetters(5);
        due("24: as many as there are", five.worthOf(42), 420);
        for (int letter = 1; letter <= 5; letter++) {
            five.worth(letter, 99);
        }
        due("24: far above", five.worthOf(42), RaisedTableaux.OVER);
        due("24: OVER changes nothing", five.worth(5, 1), 99);
    }

    private static void promise25() {
        RaisedTableaux x = new RaisedTableaux();
        due("25: at first", x.seed(-7), 1);
        due("25: below 0", x.seed(MIN), -7);
        due("25: least", x.seed(0), MIN);
        x.lot(0, 1);
        due("25: drawn from", x.seed(0), 12345);
    }

    private static void promise26() {
        RaisedTableaux x = withLetters(5);
        x.seed(42);
        int z = 42;
        int want = 0;
        for (int k = 0; k < 6; k++) {
            z = z * 1103515245 + 12345;
            want = want * 10 + 1 + (z >>> 16) % 5;
        }
        due("26: six", x.lot(3, 6), want);
        due("26: held", x.of(3, 2), want);
        due("26: a word", x.of(3, 0), 0);
        due("26: z went on", x.seed(z), z);
        due("26: of none", x.lot(3, 0), 0);
        due("26: no draw for none", x.seed(1), z);
        due("26: seven", x.lot(3, 7), RaisedTableaux.BAD);
        due("26: below 0", x.lot(3, -1), RaisedTableaux.BAD);
        due("26: slot", x.lot(6, 1), RaisedTableaux.BAD);
        due("26: BAD draws nothing", x.seed(1), 1);
        told(x, 0, "12");
        x.lot(0, 3);
        due("26: a word in a tableau's place", x.taken(0, 0), 3);
    }

    private static void promise27() {
        RaisedTableaux x = new RaisedTableaux();
        due("27: forty", x.sheet(3, 2, 40), 1);
        x.put(3, 39, 9);
        due("27: its last", x.item(3, 2, 39), 9);
        due("27: again", x.sheet(3, 2, 40), 1);
        due("27: all 0", x.item(3, 2, 39), 0);
        due("27: forty-one", x.sheet(3, 2, 41), RaisedTableaux.BAD);
        due("27: below 0", x.sheet(3, 2, -1), BELOW);
        due("27: far below 0", x.sheet(3, 2, MIN), BELOW);
        due("27: sort 3", x.sheet(3, 3, -1), RaisedTableaux.BAD);
        due("27: sort -2", x.sheet(3, -2, 1), RaisedTableaux.BAD);
        due("27: sheet 4", x.sheet(4, 0, -1), RaisedTableaux.BAD);
        due("27: sheet -1", x.sheet(-1, -1, 0), RaisedTableaux.BAD);
        due("27: refusals change nothing", x.item(3, 2, 39), 0);
        due("27: missing, whatever n", x.sheet(3, -1, -9), 1);
        due("27: it is missing", x.item(3, 2, 0), NOTHING);
        due("27: missing again", x.sheet(3, -1, 99), 1);
        due("27: of none", x.sheet(3, 0, 0), 1);
        due("27: has no place", x.item(3, 0, 0), OUTSIDE);
        x.sheet(2, 1, 5);
        x.put(2, 4, 7);
        x.sheet(2, 1, 3);
        due("27: shorter", x.item(2, 1, 4), OUTSIDE);
        x.sheet(2, 1, 5);
        due("27: nothing of it is left", x.item(2, 1, 4), 0);
    }

    private static void promise28() {
        RaisedTableaux x = new RaisedTableaux();
        x.sheet(0, 0, 2);
        x.sheet(1, 1, 2);
        x.sheet(2, 2, 2);
        due("28: bytes", x.put(0, 1, 0x17F), 1);
        due("28: lowest 8 bits", x.item(0, 0, 1), 127);
        x.put(0, 1, 200);
        due("28: a byte is a Java byte", x.item(0, 0, 1), -56);
        due("28: chars", x.put(1, 0, 0x1FFFF), 1);
        due("28: lowest 16 bits", x.item(1, 1, 0), 65535);
        x.put(1, 0, -2);
        due("28: a char is not below 0", x.item(1, 1, 0), 65534);
        due("28: longs", x.put(2, 0, MIN), 1);
        due("28: all of it", x.item(2, 2, 0), MIN);
        due("28: the neighbour stays", x.item(2, 2, 1), 0);
        due("28: behind", x.put(0, 2, 1), OUTSIDE);
        due("28: ahead", x.put(0, -1, 1), OUTSIDE);
        due("28: far", x.put(0, MAX, 1), OUTSIDE);
        due("28: missing", x.put(3, -1, 1), NOTHING);
        due("28: sheet", x.put(4, 0, 1), RaisedTableaux.BAD);
        due("28: sheet below", x.put(-1, 0, 1), RaisedTableaux.BAD);
    }

    private static void promise29() {
        RaisedTableaux x = new RaisedTableaux();
        x.sheet(0, 1, 3);
        x.put(0, 2, 'q');
        due("29: a char", x.item(0, 1, 2), 'q');
        due("29: taken for bytes", x.item(0, 0, 9), UNLIKE);
        due("29: taken for longs", x.item(0, 2, 0), UNLIKE);
        due("29: behind", x.item(0, 1, 3), OUTSIDE);
        due("29: ahead", x.item(0, 1, -1), OUTSIDE);
        due("29: missing", x.item(1, 1, 9), NOTHING);
        due("29: sort 3", x.item(1, 3, 0), RaisedTableaux.BAD);
        due("29: sort -1", x.item(1, -1, 0), RaisedTableaux.BAD);
        due("29: sheet", x.item(4, 1, 0), RaisedTableaux.BAD);
    }

    private static int digits(RaisedTableaux x, int sheet, int sort, int n) {
        int number = 0;
        for (int i = 0; i < n; i++) {
            number = number * 10 + x.item(sheet, sort, i);
        }
        return number;
    }

    private static void promise30() {
        RaisedTableaux x = new RaisedTableaux();
        x.sheet(0, 2, 5);
        x.sheet(1, 2, 3);
        x.sheet(2, 0, 3);
        for (int i = 0; i < 5; i++) {
            x.put(0, i, i + 1);
        }
        due("30: to another", x.copy(0, 1, 1, 0, 3), 3);
        due("30: is there", digits(x, 1, 2, 3), 234);
        due("30: onwards in the same", x.copy(0, 0, 0, 1, 4), 4);
        due("30: as they were", digits(x, 0, 2, 5), 11234);
        due("30: backwards in the same", x.copy(0, 1, 0, 0, 4), 4);
        due("30: as they were then", digits(x, 0, 2, 5), 12344);
        due("30: none", x.copy(0, 5, 1, 3, 0), 0);
        due("30: none from outside", x.copy(0, 6, 1, 3, 0), OUTSIDE);
        due("30: below 0", x.copy(0, 0, 1, 0, -1), OUTSIDE);
        due("30: i below 0", x.copy(0, -1, 1, 0, 1), OUTSIDE);
        due("30: j below 0", x.copy(0, 0, 1, -1, 1), OUTSIDE);
        due("30: more than the first has", x.copy(1, 1, 0, 0, 3), OUTSIDE);
        due("30: more than the other has", x.copy(0, 0, 1, 0, 4), OUTSIDE);
        due("30: together above all ints", x.copy(0, MAX, 1, 0, MAX), OUTSIDE);
        due("30: j above all ints", x.copy(0, 0, 1, MAX, 1), OUTSIDE);
        due("30: unlike", x.copy(0, 9, 2, 9, 9), UNLIKE);
        due("30: missing", x.copy(0, 0, 3, 0, 1), NOTHING);
        due("30: missing first", x.copy(3, 0, 2, 0, 1), NOTHING);
        due("30: sheet", x.copy(4, 0, 3, 0, 1), RaisedTableaux.BAD);
        due("30: other", x.copy(3, 0, -1, 0, 1), RaisedTableaux.BAD);
        due("30: refusals change nothing", digits(x, 0, 2, 5), 12344);
    }

    private static void promise31() {
        RaisedTableaux x = new RaisedTableaux();
        x.sheet(0, 0, 5);
        x.sheet(1, 1, 3);
        x.sheet(2, 2, 9);
        told(x, 0, "12/3");
        due("31: a tableau", x.lay(0, 0, 2), 3);
        due("31: as read", digits(x, 0, 0, 5), 312);
        due("31: chars", x.lay(0, 1, 0), 3);
        due("31: as read too", digits(x, 1, 1, 3), 312);
        due("31: too far", x.lay(0, 1, 1), OUTSIDE);
        due("31: ahead", x.lay(0, 1, -1), OUTSIDE);
        due("31: far", x.lay(0, 1, MAX), OUTSIDE);
        due("31: longs", x.lay(0, 2, 99), UNLIKE);
        due("31: missing", x.lay(0, 3, 99), NOTHING);
        due("31: nothing", x.lay(1, 2, 99), NOTHING);
        due("31: slot", x.lay(6, 3, 0), RaisedTableaux.BAD);
        due("31: sheet", x.lay(1, 4, 0), RaisedTableaux.BAD);
        x.word(1, 0);
        due("31: none at the end", x.lay(1, 1, 3), 0);
        due("31: none behind the end", x.lay(1, 1, 4), OUTSIDE);
        due("31: nothing was changed", digits(x, 1, 1, 3), 312);
    }

    private static void promise32() {
        RaisedTableaux x = new RaisedTableaux();
        x.sheet(0, 0, 8);
        x.sheet(1, 1, 2);
        x.sheet(2, 2, 2);
        for (int i = 0; i < 7; i++) {
            x.put(0, i, 1 + i % 3);
        }
        due("32: six", x.take(0, 1, 6, 4), 231231);
        due("32: held", x.of(4, 2), 231231);
        due("32: a word", x.of(4, 0), 0);
        due("32: none", x.take(0, 8, 0, 5), 0);
        due("32: none is a word", x.of(5, 1), 0);
        due("32: none behind the end", x.take(0, 9, 0, 5), OUTSIDE);
        due("32: seven", x.take(0, 0, 7, 5), RaisedTableaux.BAD);
        due("32: below 0", x.take(0, 0, -1, 5), RaisedTableaux.BAD);
        due("32: slot", x.take(0, 0, 1, 6), RaisedTableaux.BAD);
        due("32: sheet", x.take(4, 0, 1, 0), RaisedTableaux.BAD);
        due("32: missing", x.take(3, 9, 1, 0), NOTHING);
        due("32: longs", x.take(2, 9, 1, 0), UNLIKE);
        due("32: outside", x.take(0, 7, 2, 0), OUTSIDE);
        due("32: i below 0", x.take(0, -1, 1, 0), OUTSIDE);
        due("32: a number that is no letter", x.take(0, 6, 2, 4), RaisedTableaux.BAD);
        x.put(0, 0, 4);
        due("32: above n", x.take(0, 0, 1, 4), RaisedTableaux.BAD);
        x.put(0, 0, 257);
        due("32: of a byte its bits", x.take(0, 0, 1, 3), 1);
        x.put(1, 0, 257);
        due("32: of a char more bits", x.take(1, 0, 1, 3), RaisedTableaux.BAD);
        due("32: BAD changes nothing", x.of(4, 2), 231231);
    }

    private static void promise33() {
        RaisedTableaux x = withLetters(4);
        x.word(0, 12);
        x.word(3, 0);
        told(x, 5, "12/3");
        tell(x, "raise 1;top");
        due("33: n", x.many(0), 4);
        due("33: slots", x.many(1), 1 + 8 + 32);
        due("33: letters", x.many(2), 5);
        due("33: tape", x.many(3), 11);
        due("33: 4", x.many(4), RaisedTableaux.BAD);
        due("33: -1", x.many(-1), RaisedTableaux.BAD);
    }

    private static void promise34() {
        RaisedTableaux x = new RaisedTableaux();
        due("34: nothing to keep", x.keep(), 1);
        x.word(0, 1);
        due("34: is kept", x.again(), 0);
        due("34: bare slots", x.many(1), 0);
        x.word(0, 12);
        x.keep();
        x.act(0, 0, 1, 0);
        due("34: the latest", x.again(), 2);
        due("34: what is kept is not moved", x.of(0, 2), 12);
        x.act(0, 0, 1, 0);
        x.again();
        due("34: not after again() either", x.of(0, 2), 12);
    }

    private static void promise35() {
        RaisedTableaux x = withLetters(5);
        due("35: nothing is kept", x.again(), RaisedTableaux.NONE);
        told(x, 1, "12/3");
        x.word(2, 5544);
        x.worth(5, 9);
        x.seed(77);
        x.keep();
        x.letters(2);
        x.word(0, 1);
        x.worth(1, 8);
        x.seed(3);
        x.sheet(0, 2, 1);
        tell(x, "x");
        due("35: letters of all", x.again(), 7);
        due("35: n", x.many(0), 5);
        due("35: slots", x.many(1), 6);
        due("35: a tableau", x.row(1, 1), 3);
        due("35: a word", x.taken(2, 0), 4);
        due("35: worths", x.worth(5, 1), 9);
        due("35: worth of another", x.worth(1, 4), 1);
        due("35: z", x.seed(5), 77);
        due("35: sheets are not kept", x.item(0, 2, 0), 0);
        due("35: the tape is not kept", x.many(3), 1);
        due("35: what was kept stays", x.again(), 7);
        due("35: worths again", x.worth(1, 4), 1);
        due("35: z again", x.seed(5), 77);
    }

    private static void promises1To18() {
        promise1();
        promise2();
        promise3();
        promise4();
        promise5();
        promise6();
        promise7();
        promise8();
        promise9();
        promise10();
        promise11();
        promise12();
        promise13();
        promise14();
        promise15();
        promise16();
        promise17();
        promise18();
    }

    private static void promises19To35() {
        promise19();
        promise20();
        promise21();
        promise22();
        promise23();
        promise24();
        promise25();
        promise26();
        promise27();
        promise28();
        promise29();
        promise30();
        promise31();
        promise32();
        promise33();
        promise34();
        promise35();
    }

    public static void main(String[] args) {
        promises1To18();
        promises19To35();
        System.out.println(wrong == 0 ? "all answers are as due" : wrong + " answers are not as due");
        if (wrong != 0) {
            System.exit(1);
        }
    }
}
