/** Promises 30 to 37: what a house is, the same by another code, counts, images, rows. */
public final class RestTest {
    private static final Check CHECK = new Check("RestTest");
    private static final int NOTHING = -2_000_000_000;
    private static final String TWO = "house at 1 2 rank 3 home thu 40 50 came 6;house at 7 8 rank 9 home sun 0 180;";
    private static final String THREE = "house at 1 2 rank 3 home sun 40 50;house at 7 8 rank 9 home sun 0 180;"
        + "house at 0 0 rank 0 home sun 0 0;know 0 1;know 0 2;";

    public static void main(String[] args) {
        houses();
        callsCounted();
        beside();
        besideKnown();
        counts();
        images();
        imagesApart();
        imagesOfDeeds();
        faultBehindBack();
        rows();
        writes();
        pastes();
        CHECK.finish();
    }

    private static void houses() {
        CardBowl x = Check.with(TWO);
        int[] want = {1, 2, 3, 4, 40, 50, 6, 0, 0, NOTHING};
        for (int what = 0; what < want.length; what++) {
            CHECK.due("house(0, " + what + ")", x.house(0, what), want[what]);
        }
        CHECK.due("house(0, -1)", x.house(0, -1), NOTHING);
        CHECK.due("house(2, 0)", x.house(2, 0), NOTHING);
        CHECK.due("house(-1, 0)", x.house(-1, 0), NOTHING);
        CHECK.due("house(1, 3)", x.house(1, 3), 0);
        CHECK.due("house(1, 6)", x.house(1, 6), 0);
    }

    private static void callsCounted() {
        CardBowl x = Check.with(THREE);
        x.does(0, 1, 2);
        x.does(0, 2, 2);
        x.does(1, 0, 2);
        x.does(0, 1, 1);
        x.does(0, 1, 0);
        x.does(0, 1, 3);
        x.meet(0, 1);
        CHECK.due("calls by 0", x.house(0, 7), 2);
        CHECK.due("calls to 0", x.house(0, 8), 1);
        CHECK.due("calls by 2", x.house(2, 7), 0);
        CHECK.due("calls to 2", x.house(2, 8), 1);
        x.keep(0);
        x.does(0, 1, 2);
        x.back(0);
        CHECK.due("as the image has it", x.house(0, 7), 2);
        Check.town(x, TWO);
        CHECK.due("nothing done in a new town", x.house(0, 7), 0);
    }

    private static void beside() {
        CardBowl x = Check.with("card owes card within 1;card owes card within 1;");
        CHECK.due("beside(-1)", x.beside(-1), -2);
        CHECK.due("beside(3)", x.beside(3), -2);
        CHECK.due("beside(0)", x.beside(0), -6);
        x.keep(0);
        Check.town(x, "house at 0 0 rank 9 home sun 0 9;sent owes dinner within 1 if mine more 5 and day same 0;");
        x.keep(1);
        Check.town(x, THREE);
        x.keep(2);
        x.does(0, 1, 1);
        x.does(0, 2, 1);
        x.does(1, 0, 0);
        CHECK.due("a card each", x.beside(0), 2);
        CHECK.due("by the ranks of now", x.beside(1), 1);
        CHECK.due("by no code", x.beside(2), 0);
        x.does(1, 0, 1);
        CHECK.due("one is paid, and 0 owes one", x.beside(0), 2);
        x.days(1);
        x.does(1, 0, 0);
        CHECK.due("the day on which it was done counts", x.beside(1), 1);
        CHECK.due("nothing happens by it", x.count(3) + x.count(6), 0);
        x.back(1);
        CHECK.due("nothing was done there", x.beside(0), 0);
    }

    private static void besideKnown() {
        CardBowl x = Check.with("sent owes sent within 1 if known same 0;call owes call within 1 if known same 0;"
            + "card owes card within 1 if debts same 1;");
        x.keep(0);
        Check.town(x, "house at 0 0 rank 0 home sun 0 9;house at 0 0 rank 0 home sun 0 9 came 7;"
            + "house at 0 0 rank 0 home sun 0 9;new 1;");
        x.days(7);
        x.does(0, 1, 0);
        CHECK.due("a stranger then", x.beside(0), 1);
        x.does(0, 1, 2);
        CHECK.due("a stranger still", x.beside(0), 2);
        x.does(0, 1, 2);
        x.does(1, 0, 0);
        CHECK.due("no stranger any more, and sent is paid", x.beside(0), 1);
        x.does(2, 1, 1);
        CHECK.due("1 would have had one debt, and makes another", x.beside(0), 2);
        x.does(1, 0, 2);
        CHECK.due("the call is paid", x.beside(0), 1);
        x.meet(0, 2);
        x.does(0, 2, 0);
        CHECK.due("they met ahead", x.beside(0), 1);
    }

    private static void counts() {
        CardBowl x = Check.with(THREE + "card owes card within 2;sent owes sent within 9;new 7;introduce 4;");
        x.does(0, 1, 1);
        x.does(0, 1, 0);
        x.does(0, 2, 1);
        x.does(2, 0, 1);
        x.meet(1, 2);
        x.days(3);
        x.feed(1, 2, 3, 4, 5);
        x.row(1, 0, 0);
        x.row(3, 3, 60);
        int[] want = {3, 2, 3, 3, 2, 5, 1, 20, 4, 7, 2, -1};
        for (int what = 0; what < want.length; what++) {
            CHECK.due("count(" + what + ")", x.count(what), want[what]);
        }
    }

    private static void images() {
        CardBowl x = Check.with(THREE + "card owes card within 2;new 5;introduce 2;");
        CHECK.due("keep(3)", x.keep(3), -2);
        CHECK.due("keep(-1)", x.keep(-1), -2);
        CHECK.due("back(3)", x.back(3), -2);
        CHECK.due("back(-1)", x.back(-1), -2);
        CHECK.due("back(2)", x.back(2), -6);
        x.does(0, 1, 1);
        x.days(4);
        x.feed(1, 1, 1, 1, 1);
        CHECK.due("keep(2)", x.keep(2), 0);
        x.does(1, 0, 1);
        x.meet(1, 2);
        x.days(5);
        x.row(0, 1, 3);
        x.feed(1, 1, 1, 1, 1);
        x.end(0);
        Check.town(x, TWO + "introduce 7;");
        x.feed(1, 1, 1, 1, 1);
        x.feed(1, 1, 1, 1, 1);
        CHECK.due("back(2)", x.back(2), 0);
        int[] want = {3, 1, 4, 1, 1, 1, 0, 40, 2, 5, 1};
        for (int what = 0; what < want.length; what++) {
            CHECK.due("count(" + what + ") of the image", x.count(what), want[what]);
        }
        CHECK.due("known(1, 2)", x.known(1, 2), 0);
        CHECK.due("debt(1, 0, 2)", x.debt(1, 0, 2), 2);
        CHECK.due("house(0, 5)", x.house(0, 5), 50);
        CHECK.due("its code works", x.owes(0, 2, 1), 1);
        CHECK.due("its debts can be paid", x.does(1, 0, 1), 1);
        CHECK.due("back again", x.back(2), 0);
        CHECK.due("debts(1)", x.debts(1), 1);
    }

    private static void imagesApart() {
        CardBowl x = Check.with(THREE);
        x.keep(0);
        x.days(1);
        x.keep(1);
        x.days(1);
        x.keep(2);
        x.back(0);
        CHECK.due("image 0", x.count(2), 0);
        x.days(9);
        x.back(1);
        CHECK.due("image 1", x.count(2), 1);
        x.back(2);
        CHECK.due("image 2", x.count(2), 2);
        x.keep(0);
        x.back(1);
        x.back(0);
        CHECK.due("image 0 kept anew", x.count(2), 2);
        x.worth(0, 2);
        x.soon(1, 2);
        x.back(1);
        CHECK.due("ways are sought anew", x.soon(1, 2), -1);
    }

    private static void imagesOfDeeds() {
        CardBowl x = Check.with(THREE + "sent owes sent within 1 if day same 0;sent owes call within 9;"
            + "card owes card within 2;");
        x.does(0, 1, 2);
        x.does(1, 0, 2);
        x.does(0, 1, 1);
        x.does(0, 1, 0);
        x.does(0, 2, 1);
        x.does(1, 0, 1);
        x.keep(0);
        CHECK.due("worth(2, 0)", x.worth(2, 0), 2);
        CHECK.due("debts(1)", x.debts(1), 0);
        CHECK.due("count(6)", x.count(6), 2);
        CHECK.due("debts as they came", x.debt(2, 0, 2), 2);
        Check.town(x, TWO + "know 0 1;sent owes dinner within 1;");
        x.days(6);
        x.does(1, 0, 0);
        x.does(1, 0, 0);
        CHECK.due("worth(0, 14)", x.worth(0, 14), 4);
        CHECK.due("another town", x.count(5), 2);
        x.back(0);
        CHECK.due("the ring of the image", x.ring(1), 3);
        CHECK.due("beside itself", x.beside(0), x.count(3));
        CHECK.due("count(6)", x.count(6), 2);
        CHECK.due("a card of day 0", x.debt(0, 0, 3), 0);
        CHECK.due("worth(2, 0)", x.worth(2, 0), 2);
        CHECK.due("worth(0, 0)", x.worth(0, 0), 2);
        x.does(2, 0, 1);
        CHECK.due("worth(2, 0), all paid", x.worth(2, 0), 0);
        CHECK.due("worth(0, 0)", x.worth(0, 0), 4);
    }

    /** fault() tells of the latest town(), and back() is none. */
    private static void faultBehindBack() {
        CardBowl x = new CardBowl();
        x.keep(2);
        x.feed(0, 0, 0, 0, 0);
        CHECK.due("a tape of zeros", x.town(), -4);
        x.back(2);
        CHECK.due("fault(0), kept ahead of any town", x.fault(0), 1);
        CHECK.due("fault(1), kept ahead of any town", x.fault(1), 0);

        Check.town(x, THREE);
        x.keep(0);
        Check.town(x, "new 100;");
        x.keep(1);
        x.back(0);
        CHECK.due("fault(0), kept without a fault", x.fault(0), 2);
        CHECK.due("fault(1), kept without a fault", x.fault(1), 4);

        Check.town(x, THREE);
        CHECK.due("fault(0), a good town", x.fault(0), 0);
        x.back(1);
        CHECK.due("fault(0), kept with a fault", x.fault(0), 0);
        CHECK.due("fault(1), kept with a fault", x.fault(1), -1);
        CHECK.due("fault(2)", x.fault(2), -1);
        CHECK.due("fault(-1)", x.fault(-1), -1);
    }

    private static void rows() {
        CardBowl x = Check.with(THREE);
        CHECK.due("row(-1, 0, 1)", x.row(-1, 0, 1), -2);
        CHECK.due("row(4, 0, 1)", x.row(4, 0, 1), -2);
        CHECK.due("row(0, -1, 1)", x.row(0, -1, 1), -2);
        CHECK.due("row(0, 4, 1)", x.row(0, 4, 1), -2);
        CHECK.due("row(0, 0, 61)", x.row(0, 0, 61), -2);
        CHECK.due("row(0, 0, -1)", x.row(0, 0, -1), -3);
        CHECK.due("row(4, 0, -1)", x.row(4, 0, -1), -2);
        CHECK.due("nothing yet", x.write(0, 0, 1), -6);
        CHECK.due("row(0, 0, 60)", x.row(0, 0, 60), 0);
        CHECK.due("its last number", x.write(0, 59, 1), 0);
        CHECK.due("none behind it", x.write(0, 60, 1), -7);
        CHECK.due("row(0, 1, -5)", x.row(0, 1, -5), -3);
        CHECK.due("it stays", x.write(0, 59, 1), 0);
        CHECK.due("row(0, 0, 3)", x.row(0, 0, 3), 0);
        x.write(0, 1, 1);
        x.write(0, 2, 4);
        CHECK.due("0 and 1 meet", x.done(0), 1);
        CHECK.due("laid anew", x.row(0, 0, 3), 0);
        CHECK.due("all 0: one and the same", x.done(0), 0);
        CHECK.due("row(0, 2, 0)", x.row(0, 2, 0), 0);
        CHECK.due("write to none", x.write(0, 0, 0), -7);
        CHECK.due("a row all the same", x.count(10), 1);
    }

    private static void writes() {
        CardBowl x = Check.with(THREE);
        CHECK.due("write(-1, 0, 1)", x.write(-1, 0, 1), -2);
        CHECK.due("write(4, 0, 1)", x.write(4, 0, 1), -2);
        CHECK.due("write(1, 0, 1)", x.write(1, 0, 1), -6);
        for (int width = 0; width < 4; width++) {
            x.row(1, width, 3);
            CHECK.due("write(1, -1, 1)", x.write(1, -1, 1), -7);
            CHECK.due("write(1, 3, 1)", x.write(1, 3, 1), -7);
            int bits = 8 << width;
            x.write(1, 0, bits < 64 ? (1L << bits) + 1 : 1);
            x.write(1, 1, bits < 64 ? -1L << bits : 0);
            x.write(1, 2, 4);
            CHECK.due("cut to its width", x.done(1), 1);
            x.write(1, 1, 1L << (bits - 1));
            CHECK.due("the highest bit is in it", x.done(1), 0);
        }
    }

    private static void pastes() {
        CardBowl x = Check.with(THREE);
        CHECK.due("paste(-1, ..)", x.paste(-1, 0, 0, 0, 0), -2);
        CHECK.due("paste(.., 4, ..)", x.paste(0, 0, 4, 0, 0), -2);
        CHECK.due("from nothing", x.paste(0, 0, 1, 0, 0), -6);
        Check.row(x, 0, 0, 1, 4, 0, 2);
        CHECK.due("to nothing", x.paste(0, 0, 1, 0, 0), -6);
        x.row(1, 2, 5);
        CHECK.due("another width", x.paste(0, 0, 1, 0, 1), -8);
        CHECK.due("another width, and beyond", x.paste(0, 9, 1, 0, 1), -8);
        x.row(1, 3, 4);
        int[][] beyond = {{-1, 0, 1}, {0, -1, 1}, {0, 0, -1}, {5, 0, 1}, {0, 4, 1}, {0, 0, 5}, {3, 0, 3}, {0, 2, 3},
            {Integer.MAX_VALUE, 0, 1}, {1, 0, Integer.MAX_VALUE}, {0, Integer.MAX_VALUE, Integer.MAX_VALUE}};
        for (int[] w : beyond) {
            CHECK.due("beyond", x.paste(0, w[0], 1, w[1], w[2]), -7);
        }
        CHECK.due("nothing happened", x.done(1), 0);
        CHECK.due("none from the end", x.paste(0, 5, 1, 4, 0), 0);
        CHECK.due("three", x.paste(0, 0, 1, 0, 3), 0);
        CHECK.due("they meet", x.done(1), 1);
        // 0 1 4 0 2 -> 0 1 0 1 4: as they were, though the places overlap
        CHECK.due("its own", x.paste(0, 0, 0, 2, 3), 0);
        CHECK.due("0 1 0: sent", x.done(0), 1);
        CHECK.due("none was a call", x.house(0, 7), 0);
        CHECK.due("and back", x.paste(0, 2, 0, 0, 3), 0);
        CHECK.due("0 1 4: a meeting", x.done(0), 1);
        CHECK.due("a meeting, sent, a meeting", x.count(5), 3);
    }
}
