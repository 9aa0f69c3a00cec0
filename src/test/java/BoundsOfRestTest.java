/** Promises 30 to 37 and the SLOTS of Term I, at their bounds: the last that is within, the first that is not. */
public final class BoundsOfRestTest {
    private static final Bounds B = new Bounds("BoundsOfRestTest");
    private static final String THREE = Bounds.houses(3) + Bounds.know(0, 1, 0, 2);
    private static final String CARDS = "card owes card within 1;";

    public static void main(String[] args) {
        termISlots();
        promise30House();
        promise30Calls();
        promise30Others();
        promise31Beside();
        promise31Code();
        promise31Refused();
        promise32Count();
        promise32Many();
        promise32Others();
        promise33Keep();
        promise33NotTheTape();
        promise34Back();
        promise34Refused();
        promise35Row();
        promise35Refused();
        promise36Width();
        promise36Refused();
        promise37Paste();
        promise37Itself();
        promise37Refused();
        promise37Beyond();
        B.finish("Term I", "promise 30", "promise 31", "promise 32", "promise 33", "promise 34", "promise 35", "promise 36", "promise 37");
    }

    private static void termISlots() {
        B.term("I", "SLOTS 0 .. 3 have rows of numbers of 1, 2, 4 or 8 bytes (WIDTH 0 .. 3), at most 60, or nothing");
        CardBowl x = new CardBowl();
        for (int slot = 0; slot < 4; slot++) {
            B.due("nothing in " + slot, x.write(slot, 0, 1), -6);
            for (int width = 0; width < 4; width++) {
                B.due("row(" + slot + ", " + width + ", 60)", x.row(slot, width, 60), 0);
                B.due("its last number", x.write(slot, 59, 1), 0);
                B.due("one behind it", x.write(slot, 60, 1), -7);
            }
            B.due("WIDTH 4", x.row(slot, 4, 1), -2);
            B.due("WIDTH -1", x.row(slot, -1, 1), -2);
            B.due("61 numbers", x.row(slot, 0, 61), -2);
        }
        B.due("slot 4", x.row(4, 0, 1), -2);
        B.due("slot -1", x.row(-1, 0, 1), -2);
    }

    private static void promise30House() {
        B.promise(30, "Of HOUSE a what 0: its x, 1: its y, 2: its rank, 3: the weekday, 4: from, 5: to, 6: the DAY on which it came");
        CardBowl x = Check.with("house at 1 2 rank 3 home thu 5 6 came 7;house at 99 98 rank 9 home sat 179 180 came 399;house at 0 0 rank 0 home sun 0 0;");
        int[][] want = {{1, 2, 3, 4, 5, 6, 7, 0, 0}, {99, 98, 9, 6, 179, 180, 399, 0, 0}, {0, 0, 0, 0, 0, 0, 0, 0, 0}};
        for (int a = 0; a < 3; a++) {
            for (int what = 0; what < 9; what++) {
                B.due("house(" + a + ", " + what + ")", x.house(a, what), want[a][what]);
            }
        }
    }

    private static void promise30Calls() {
        B.promise(30, "7: CALLS done by it, 8: done to it");
        CardBowl x = Check.with(THREE);
        x.does(0, 1, 0);
        x.does(0, 1, 1);
        x.meet(0, 1);
        B.due("none by 0", x.house(0, 7), 0);
        B.due("none to 1", x.house(1, 8), 0);
        x.does(0, 1, 2);
        B.due("one by 0", x.house(0, 7), 1);
        B.due("one to 1", x.house(1, 8), 1);
        B.due("none by 1", x.house(1, 7), 0);
        B.due("none to 0", x.house(0, 8), 0);
        x.days(1);
        B.due("one that may not be", x.does(0, 1, 2), -5);
        B.due("still one", x.house(0, 7), 1);
        CardBowl y = Check.with(THREE);
        y.row(0, 0, 60);
        for (int i = 0; i < 20; i++) {
            y.write(0, 3 * i + 1, 1 + i % 2);
            y.write(0, 3 * i + 2, 2);
        }
        for (int i = 0; i < 30; i++) {
            y.done(0);
        }
        B.due("600 by 0", y.house(0, 7), 600);
        B.due("300 to 1", y.house(1, 8), 300);
        B.due("300 to 2", y.house(2, 8), 300);
    }

    private static void promise30Others() {
        B.promise(30, "NOTHING (-2,000,000,000) for others");
        CardBowl x = Check.with(THREE);
        B.due("what 8", x.house(0, 8), 0);
        B.due("what 9", x.house(0, 9), Bounds.NOTHING);
        B.due("house 2", x.house(2, 2), 1);
        B.due("house 3", x.house(3, 2), Bounds.NOTHING);
        for (int none : Bounds.FAR_OFF) {
            B.due("house(" + none + ", 0)", x.house(none, 0), Bounds.NOTHING);
            B.due("house(0, " + none + ")", x.house(0, none), Bounds.NOTHING);
        }
        B.due("no houses", new CardBowl().house(0, 0), Bounds.NOTHING);
    }

    private static void promise31Beside() {
        B.promise(31, "DEBTS that would be open today in all, if all that was DONE had been so by the CODE of IMAGE k");
        CardBowl x = Check.with(CARDS);
        x.keep(0);
        Check.town(x, "card owes dinner within 1;dinner owes card within 1;");
        x.keep(1);
        Check.town(x, "");
        x.keep(2);
        Check.town(x, THREE);
        B.due("nothing is DONE", x.beside(0), 0);
        x.does(0, 1, 1);
        B.due("a card", x.beside(0), 1);
        B.due("no CODE", x.beside(2), 0);
        x.does(0, 1, 1);
        B.due("one of like KIND stays the only one", x.beside(0), 1);
        x.does(1, 0, 1);
        B.due("paid, and one the other way", x.beside(0), 1);
        B.due("a card pays no dinner", x.beside(1), 2);
        x.does(1, 0, 3);
        B.due("a dinner pays it", x.beside(1), 2);
        B.due("no LINE for a dinner", x.beside(0), 1);
        B.due("nothing happens by it", x.count(3) + x.count(6), 0);
        CardBowl y = Check.with(CARDS);
        y.keep(0);
        Check.town(y, THREE);
        Bounds.meetTimes(y, 599);
        y.does(0, 2, 1);
        B.due("the 600th counts", y.beside(0), 1);
        B.due("600 are DONE", y.count(5), 600);
    }

    private static void promise31Code() {
        B.promise(31, "(its LINES; HOUSES of now)");
        CardBowl x = Check.with(Bounds.ranked(9) + Bounds.ranked(9) + "introduce 9;card owes card within 1 if mine same 2 and theirs same 3 and day same 4;");
        x.keep(0);
        Check.town(x, Bounds.ranked(2) + Bounds.ranked(3) + Bounds.know(0, 1));
        x.days(4);
        x.does(0, 1, 1);
        x.days(1);
        B.due("ranks of now, the DAY of then", x.beside(0), 1);
        x.does(1, 0, 1);
        B.due("the other way it does not hold", x.beside(0), 0);
        x.does(0, 1, 1);
        B.due("nor a day later", x.beside(0), 0);
        x.keep(0);
        B.due("the image of now has no LINES", x.beside(0), 0);
        // who knows whom is that of now as well: told, then met, called on or dined with
        CardBowl y = Check.with("sent owes sent within 1 if known same 1;sent owes card within 1 if known same 0;");
        y.keep(0);
        for (int paying = 0; paying < 5; paying++) {
            Check.town(y, Bounds.houses(1) + Bounds.with(0, "came 7") + Bounds.houses(1) + Bounds.know(0, 2));
            y.days(7);
            y.does(0, 2, 0);
            B.due("told", y.beside(0), 1);
            y.does(0, 1, 0);
            B.due("strangers: one of a card", y.beside(0), 2);
            y.does(2, 1, 0);
            B.due("others, strangers too", y.beside(0), 3);
            y.does(1, 0, 0);
            B.due("strangers may not come back", y.count(5), 3);
            B.due("done", paying < 4 ? y.does(0, 1, paying) : y.meet(1, 0), paying < 4 ? 0 : 1);
            y.does(0, 1, 0);
            B.due("one of sent, if they came to know each other", y.beside(0), paying < 2 ? 3 : 4);
        }
    }

    private static void promise31Refused() {
        B.promise(31, "-2: no such k; -6: it has nothing");
        CardBowl x = Check.with(THREE + CARDS);
        x.does(0, 1, 1);
        for (int k = 0; k < 3; k++) {
            B.due("nothing in " + k, x.beside(k), -6);
            x.keep(k);
            B.due("kept in " + k, x.beside(k), 1);
        }
        B.due("beside(3)", x.beside(3), -2);
        for (int none : Bounds.FAR_OFF) {
            B.due("beside(" + none + ")", x.beside(none), -2);
        }
    }

    private static void promise32Count() {
        B.promise(32, "0 HOUSES, 1 LINES of the CODE, 2 the DAY, 3 DEBTS open in all, 4 of these due ahead of today, 5 PAYINGS and meetings DONE, 6 DEBTS paid, 7 bytes of the TAPE, 8 introducers, 9 new, 10 SLOTS that have a row");
        CardBowl x = Check.with(THREE + "card owes card within 2;new 8;introduce 9;");
        x.does(0, 1, 1);
        x.does(0, 2, 1);
        x.does(2, 0, 1);
        x.meet(1, 2);
        x.days(2);
        x.does(1, 2, 1);
        x.feed(0, 0, 0, 0, 0);
        x.end(19);
        x.row(3, 0, 0);
        B.counts("on the due DAY", x, 3, 1, 2, 3, 0, 5, 1, 19, 9, 8, 1);
        x.days(1);
        B.counts("the DAY behind it", x, 3, 1, 3, 3, 2, 5, 1, 19, 9, 8, 1);
    }

    private static void promise32Many() {
        B.promise(32, "3 DEBTS open in all, 4 of these due ahead of today, 5 PAYINGS and meetings DONE, 6 DEBTS paid");
        StringBuilder text = new StringBuilder("house at0 0rank0home sun0 0;".repeat(16));
        for (int a = 0; a < 16; a++) {
            for (int b = a + 1; b < 16 && text.length() < 900; b++) {
                text.append("know ").append(a).append(' ').append(b).append(';');
            }
        }
        text.append("sent owes sent within 0;card owes card within 0;");
        CardBowl x = Check.with(text.toString());
        x.row(0, 0, 6);
        x.write(0, 5, 1);
        int pairs = 0;
        for (int a = 0; a < 16; a++) {
            for (int b = a + 1; b < 16 && pairs < 40; b++) {
                if (x.known(a, b) == 1) {
                    x.write(0, 0, a);
                    x.write(0, 1, b);
                    x.write(0, 3, a);
                    x.write(0, 4, b);
                    B.due("two more", x.done(0), 2);
                    pairs++;
                }
            }
        }
        B.due("two each", x.count(3), 2 * pairs);
        B.due("none is late", x.count(4), 0);
        x.days(1);
        B.due("all are late", x.count(4), 2 * pairs);
        B.due("DONE", x.count(5), 2 * pairs);
        B.due("a card pays both", x.does(1, 0, 1), 2);
        B.due("paid", x.count(6), 2);
        B.due("one more of the other way", x.count(3), 2 * pairs - 1);
        B.due("which is not late", x.count(4), 2 * pairs - 2);
    }

    private static void promise32Others() {
        B.promise(32, "NONE for others");
        CardBowl x = Check.with(THREE);
        for (int slot = 0; slot < 4; slot++) {
            B.due("slots ahead", x.count(10), slot);
            x.row(slot, 0, 1);
        }
        B.due("all four slots", x.count(10), 4);
        x.row(3, 1, 2);
        B.due("in place of another one", x.count(10), 4);
        B.due("count(11)", x.count(11), -1);
        for (int none : Bounds.FAR_OFF) {
            B.due("count(" + none + ")", x.count(none), -1);
        }
    }

    private static void promise33Keep() {
        B.promise(33, "IMAGE k (0 .. 2) keeps all but the TAPE and SLOTS: 0. -2: no such k");
        CardBowl x = Check.with(THREE + CARDS + "new 5;introduce 6;");
        for (int k = 0; k < 3; k++) {
            B.due("keep(" + k + ")", x.keep(k), 0);
            x.days(1);
            x.does(0, 1, 1);
        }
        B.due("keep(3)", x.keep(3), -2);
        for (int none : Bounds.FAR_OFF) {
            B.due("keep(" + none + ")", x.keep(none), -2);
        }
        for (int k = 2; k >= 0; k--) {
            x.back(k);
            B.counts("of IMAGE " + k, x, 3, 1, k, k > 0 ? 1 : 0, 0, k, 0, 0, 6, 5, 0);
        }
        B.due("in place of another one", x.keep(2), 0);
        x.days(9);
        x.back(2);
        B.due("as kept last", x.count(2), 0);
        CardBowl y = new CardBowl();
        B.due("of a new object", y.keep(0), 0);
        Check.town(y, THREE + CARDS);
        y.back(0);
        B.counts("of a new object", y, 0, 0, 0, 0, 0, 0, 0, 0, 3, 0, 0);
    }

    private static void promise33NotTheTape() {
        B.promise(33, "all but the TAPE and SLOTS");
        CardBowl x = Check.with(THREE);
        x.feed(0, 0, 0, 0, 0);
        x.row(0, 0, 3);
        x.keep(0);
        Check.feed(x, "new 77;");
        x.row(1, 0, 3);
        x.write(0, 1, 1);
        x.write(0, 2, 4);
        x.back(0);
        B.due("the TAPE of now", x.count(7), 27);
        B.due("the SLOTS of now", x.count(10), 2);
        B.due("their numbers of now", x.done(0), 1);
        x.end(0);
        x.keep(0);
        Check.feed(x, "new 77;");
        x.back(0);
        x.town();
        B.due("the TAPE of now is read", x.count(9), 77);
    }

    private static void promise34Back() {
        B.promise(34, "All that is as IMAGE k has it: 0");
        CardBowl x = Check.with("card owes card within 1 if day same 0;sent owes call within 1 if day same 1;");
        x.keep(0);
        Check.town(x, THREE + "card owes card within 1;sent owes dinner within 5;call owes sent within 3;new 5;introduce 6;");
        x.does(0, 2, 1);
        x.does(0, 1, 2);
        x.does(1, 0, 2);
        x.does(2, 0, 2);
        x.does(0, 1, 3);
        x.days(1);
        x.does(0, 1, 0);
        x.does(2, 0, 1);
        x.days(2);
        x.does(0, 2, 1);
        x.does(1, 0, 1);
        x.keep(1);
        int[] before = all(x);
        Check.town(x, Bounds.ranked(7) + Bounds.home(3, 5, 90) + Bounds.houses(1) + "sent owes call within 9;" + Bounds.know(0, 1, 1, 2));
        for (int i = 0; i < 12; i++) {
            x.does(2 * (i % 2), 1, 0);
            x.days(5);
            x.does(1, 2 * (i % 2), 0);
        }
        B.due("another town", x.house(0, 2), 7);
        B.due("back(1)", x.back(1), 0);
        B.due("all is as it was", java.util.Arrays.equals(before, all(x)) ? 1 : 0, 1);
        x.does(1, 0, 1);
        x.meet(1, 2);
        B.due("back(1), again", x.back(1), 0);
        B.due("all is as it was, again", java.util.Arrays.equals(before, all(x)) ? 1 : 0, 1);
    }

    /** The answers of all calls that ask. */
    private static int[] all(CardBowl x) {
        int[] answers = new int[400];
        int n = 0;
        int day = x.count(2);
        for (int what = 0; what < 11; what++) {
            answers[n++] = x.count(what);
        }
        answers[n++] = x.first();
        answers[n++] = x.rings();
        answers[n++] = x.beside(0);
        for (int a = 0; a < 3; a++) {
            for (int what = 0; what < 9; what++) {
                answers[n++] = x.house(a, what);
            }
            for (int i = 0; i < 8; i++) {
                answers[n++] = x.debt(a, i / 4, i % 4);
            }
            int[] of = {x.debts(a), x.slights(a), x.worth(a, day), x.worth(a, day + 4), x.round(a, day, 0), x.over(a, day), x.fewest(a),
                x.lost(a), x.reach(a), x.drop(a), x.ring(a)};
            for (int answer : of) {
                answers[n++] = answer;
            }
            for (int b = 0; b < a; b++) {
                int[] pair = {x.known(a, b), x.bars(a, b, 1), x.bars(b, a, 2), x.owes(a, b, 0), x.owes(b, a, 1), x.soon(a, b), x.path(b, a, 0),
                    x.tie(a, b)};
                for (int answer : pair) {
                    answers[n++] = answer;
                }
            }
        }
        return answers;
    }

    private static void promise34Refused() {
        B.promise(34, "-2: no such k; -6: it has nothing");
        CardBowl x = Check.with(THREE);
        x.days(5);
        for (int k = 0; k < 3; k++) {
            B.due("nothing in " + k, x.back(k), -6);
            B.due("all stays", x.count(2), 5);
            x.keep(k);
            B.due("kept in " + k, x.back(k), 0);
        }
        B.due("back(3)", x.back(3), -2);
        for (int none : Bounds.FAR_OFF) {
            B.due("back(" + none + ")", x.back(none), -2);
        }
        Check.town(x, "");
        B.due("IMAGES stay behind another town", x.back(2), 0);
        B.due("the DAY", x.count(2), 5);
    }

    private static void promise35Row() {
        B.promise(35, "A SLOT (0 .. 3) has a row of n numbers of a WIDTH, all 0 (in place of another one): 0");
        CardBowl x = Check.with(THREE);
        for (int slot = 0; slot < 4; slot++) {
            for (int n : new int[] {0, 1, 59, 60}) {
                B.due("row(" + slot + ", 2, " + n + ")", x.row(slot, 2, n), 0);
                B.due("no number ahead", x.write(slot, -1, 0), -7);
                B.due("the last number", x.write(slot, n - 1, 0), n > 0 ? 0 : -7);
                B.due("none behind it", x.write(slot, n, 0), -7);
            }
        }
        x.row(0, 0, 3);
        x.write(0, 1, 1);
        x.write(0, 2, 4);
        B.due("0 and 1 meet", x.done(0), 1);
        x.row(0, 0, 3);
        B.due("all 0: 0 and 0", x.done(0), 0);
        x.write(0, 1, 1);
        B.due("0 sends to 1", x.done(0), 1);
        x.row(0, 0, 60);
        x.write(0, 58, 1);
        B.due("of the greatest row the last three", x.done(0), 1);
        x.row(0, 0, 3);
        x.row(0, 0, 60);
        B.due("what was behind is 0, too", x.done(0), 0);
    }

    private static void promise35Refused() {
        B.promise(35, "-2: there is no such SLOT or WIDTH (0 .. 3), or n is above 60; -3, and the SLOT stays: n is below 0");
        CardBowl x = Check.with(THREE);
        Check.row(x, 1, 0, 1, 4);
        B.due("slot 3", x.row(3, 0, 1), 0);
        B.due("slot 4", x.row(4, 0, 1), -2);
        B.due("WIDTH 3", x.row(3, 3, 1), 0);
        B.due("WIDTH 4", x.row(1, 4, 1), -2);
        B.due("WIDTH -1", x.row(1, -1, 1), -2);
        B.due("n 61", x.row(1, 0, 61), -2);
        B.due("n -1", x.row(1, 0, -1), -3);
        B.due("n -1, slot 4", x.row(4, 0, -1), -2);
        B.due("n -1, slot -1", x.row(-1, 0, -1), -2);
        B.due("n -1, WIDTH 4", x.row(1, 4, -1), -2);
        B.due("n -1, WIDTH -1", x.row(1, -1, -1), -2);
        B.due("n, the greatest of all", x.row(1, 0, Integer.MAX_VALUE), -2);
        B.due("n, the least of all", x.row(1, 0, Integer.MIN_VALUE), -3);
        for (int none : Bounds.FAR_OFF) {
            B.due("row(" + none + ", 0, 1)", x.row(none, 0, 1), -2);
            B.due("row(1, " + none + ", 1)", x.row(1, none, 1), -2);
        }
        B.due("the SLOT stays", x.done(1), 1);
        B.due("n -1 of one that has nothing", x.row(2, 0, -1), -3);
        B.due("it has nothing still", x.done(2), -6);
    }

    private static void promise36Width() {
        B.promise(36, "Number i of the SLOT's row is v, cut to its WIDTH: 0");
        for (int width = 0; width < 4; width++) {
            int bits = 8 << width;
            CardBowl x = Check.with(THREE);
            x.row(0, width, 3);
            x.write(0, 2, 4);
            // house 1 in the lowest byte, and one bit above it
            for (int bit = 4; bit < 64; bit++) {
                B.due("write", x.write(0, 1, 1L | 1L << bit), 0);
                B.due("bit " + bit + " of WIDTH " + width, x.done(0), bit < bits ? 0 : 1);
            }
            B.due("write", x.write(0, 1, -1L << 4 | 1), 0);
            B.due("below 0", x.done(0), 0);
            B.due("write", x.write(0, 1, Long.MIN_VALUE | 2), 0);
            B.due("the highest bit of all", x.done(0), bits < 64 ? 1 : 0);
            B.due("write", x.write(0, 1, Long.MAX_VALUE), 0);
            B.due("the greatest of all", x.done(0), 0);
            B.due("write", x.write(0, 1, Long.MIN_VALUE), 0);
            B.due("the least of all, cut it is 0: 0 and 0", x.done(0), 0);
            x.write(0, 0, bits < 64 ? 1L << bits : 0);
            x.write(0, 1, bits < 64 ? (1L << bits) + 1 : 1);
            x.write(0, 2, bits < 64 ? (3L << bits) + 4 : 4);
            B.due("wrapped around", x.done(0), 1);
        }
    }

    private static void promise36Refused() {
        B.promise(36, "-2: there is no such SLOT; -6: it has nothing; -7: there is no such number");
        CardBowl x = new CardBowl();
        for (int slot = 0; slot < 4; slot++) {
            B.due("nothing in " + slot, x.write(slot, 0, 5), -6);
            B.due("-6 ahead of -7", x.write(slot, -1, 5), -6);
            x.row(slot, slot, 7);
            B.due("the first", x.write(slot, 0, 5), 0);
            B.due("the last", x.write(slot, 6, 5), 0);
            B.due("one behind it", x.write(slot, 7, 5), -7);
            B.due("one ahead", x.write(slot, -1, 5), -7);
            for (int none : Bounds.FAR_OFF) {
                B.due("write(" + slot + ", " + none + ", 5)", x.write(slot, none, 5), -7);
            }
            x.row(slot, slot, 0);
            B.due("of none", x.write(slot, 0, 5), -7);
        }
        B.due("slot 4", x.write(4, 0, 5), -2);
        B.due("-2 ahead of -7", x.write(4, -1, 5), -2);
        for (int none : Bounds.FAR_OFF) {
            B.due("write(" + none + ", 0, 5)", x.write(none, 0, 5), -2);
        }
    }

    /** How many of the 3 n numbers' deeds are done; the row is read as sent (0), card (1), .. from 0 to 1. */
    private static void rowIs(String what, CardBowl x, int slot, long... numbers) {
        CardBowl due = Check.with(THREE);
        Check.row(due, 0, numbers);
        due.done(0);
        x.keep(2);
        int from = x.count(5);
        x.done(slot);
        B.due(what + ": DONE", x.count(5) - from, due.count(5));
        B.due(what + ": calls on 1", x.house(1, 8), due.house(1, 8));
        B.due(what + ": calls on 2", x.house(2, 8), due.house(2, 8));
        x.back(2);
    }

    private static void promise37Paste() {
        B.promise(37, "So many numbers of a SLOT's row, from one on, are put to another one's (or its own), from one on, as they were: 0");
        for (int width = 0; width < 4; width++) {
            CardBowl x = Check.with(THREE);
            x.row(0, width, 6);
            x.row(3, width, 9);
            long[] from = {0, 1, 2, 0, 2, 2};
            for (int i = 0; i < 6; i++) {
                x.write(0, i, from[i]);
            }
            B.due("none", x.paste(0, 0, 3, 0, 0), 0);
            rowIs("none", x, 3, 0, 0, 0, 0, 0, 0, 0, 0, 0);
            B.due("all, to the first places", x.paste(0, 0, 3, 0, 6), 0);
            rowIs("all, to the first places", x, 3, 0, 1, 2, 0, 2, 2, 0, 0, 0);
            B.due("the last three, to the last places", x.paste(0, 3, 3, 6, 3), 0);
            rowIs("the last three, to the last places", x, 3, 0, 1, 2, 0, 2, 2, 0, 2, 2);
            B.due("one", x.paste(0, 1, 3, 7, 1), 0);
            rowIs("one", x, 3, 0, 1, 2, 0, 2, 2, 0, 1, 2);
            rowIs("the others stay", x, 0, 0, 1, 2, 0, 2, 2);
        }
    }

    private static void promise37Itself() {
        B.promise(37, "(or its own), from one on, as they were");
        CardBowl x = Check.with(THREE);
        Check.row(x, 0, 0, 1, 2, 0, 2, 2, 0, 0, 0);
        B.due("behind", x.paste(0, 0, 0, 3, 6), 0);
        rowIs("behind", x, 0, 0, 1, 2, 0, 1, 2, 0, 2, 2);
        Check.row(x, 0, 0, 0, 0, 0, 1, 2, 0, 2, 2);
        B.due("ahead", x.paste(0, 3, 0, 0, 6), 0);
        rowIs("ahead", x, 0, 0, 1, 2, 0, 2, 2, 0, 2, 2);
        B.due("to where they are", x.paste(0, 0, 0, 0, 9), 0);
        rowIs("to where they are", x, 0, 0, 1, 2, 0, 2, 2, 0, 2, 2);
        Check.row(x, 1, new long[60]);
        x.write(1, 1, 1);
        x.write(1, 2, 2);
        B.due("over and over, by one", x.paste(1, 0, 1, 1, 59), 0);
        B.due("back, by one", x.paste(1, 1, 1, 0, 59), 0);
        long[] want = new long[60];
        want[1] = 1;
        want[2] = 2;
        rowIs("there and back", x, 1, want);
    }

    private static void promise37Refused() {
        B.promise(37, "-2: there is no such SLOT; -6: one has nothing; -8: they are not of one WIDTH");
        CardBowl x = Check.with(THREE);
        B.due("both have nothing", x.paste(0, 0, 1, 0, 0), -6);
        x.row(0, 1, 3);
        B.due("one has nothing", x.paste(0, 0, 1, 0, 1), -6);
        B.due("the other has nothing", x.paste(1, 0, 0, 0, 1), -6);
        B.due("-6 ahead of -7", x.paste(1, -1, 0, 0, 1), -6);
        for (int width = 0; width < 4; width++) {
            x.row(1, width, 3);
            B.due("WIDTHS 1 and " + width, x.paste(0, 0, 1, 0, 3), width == 1 ? 0 : -8);
            B.due("WIDTHS " + width + " and 1", x.paste(1, 0, 0, 0, 3), width == 1 ? 0 : -8);
            B.due("none of them", x.paste(1, 0, 0, 0, 0), width == 1 ? 0 : -8);
            B.due("-8 ahead of -7", x.paste(1, 0, 0, 0, 4), width == 1 ? -7 : -8);
        }
        B.due("slot 3", x.paste(0, 0, 3, 0, 1), -6);
        B.due("slot 4", x.paste(0, 0, 4, 0, 1), -2);
        B.due("from slot 4", x.paste(4, 0, 0, 0, 1), -2);
        B.due("-2 ahead of -6", x.paste(3, 0, 4, 0, 1), -2);
        B.due("-2 ahead of -7", x.paste(4, -1, 0, 0, 1), -2);
        for (int none : Bounds.FAR_OFF) {
            B.due("from " + none, x.paste(none, 0, 0, 0, 1), -2);
            B.due("to " + none, x.paste(0, 0, none, 0, 1), -2);
        }
    }

    private static void promise37Beyond() {
        B.promise(37, "-7, and nothing happens: some are beyond their rows, or a place or n is below 0");
        CardBowl x = Check.with(THREE);
        Check.row(x, 0, 0, 1, 2, 0, 2);
        Check.row(x, 1, 0, 2, 2);
        B.due("all of the shorter", x.paste(0, 0, 1, 0, 3), 0);
        B.due("one more", x.paste(0, 0, 1, 0, 4), -7);
        B.due("the last three", x.paste(0, 2, 1, 0, 3), 0);
        B.due("from one behind", x.paste(0, 3, 1, 0, 3), -7);
        B.due("the last of both", x.paste(0, 4, 1, 2, 1), 0);
        B.due("from behind the last", x.paste(0, 5, 1, 2, 1), -7);
        B.due("to behind the last", x.paste(0, 4, 1, 3, 1), -7);
        B.due("two to the last", x.paste(0, 0, 1, 2, 2), -7);
        B.due("none, at the ends", x.paste(0, 5, 1, 3, 0), 0);
        Check.row(x, 1, 0, 2, 2);
        int[][] below = {{-1, 0, 1}, {0, -1, 1}, {0, 0, -1}, {-1, 0, 0}, {0, -1, 0}, {-1, -1, 1}, {1, 1, -1}};
        for (int[] b : below) {
            B.due("paste(0, " + b[0] + ", 1, " + b[1] + ", " + b[2] + ")", x.paste(0, b[0], 1, b[1], b[2]), -7);
        }
        for (int far : new int[] {Integer.MIN_VALUE, Integer.MAX_VALUE, Integer.MAX_VALUE - 1, Integer.MIN_VALUE + 1}) {
            B.due("from " + far, x.paste(0, far, 1, 0, 1), -7);
            B.due("to " + far, x.paste(0, 0, 1, far, 1), -7);
            B.due("so many: " + far, x.paste(0, 0, 1, 0, far), -7);
            B.due("from one, so many: " + far, x.paste(0, 1, 1, 1, far), -7);
            B.due("all of them: " + far, x.paste(0, far, 1, far, far), -7);
        }
        rowIs("nothing happened", x, 1, 0, 2, 2);
        rowIs("nor there", x, 0, 0, 1, 2, 0, 2);
    }
}
