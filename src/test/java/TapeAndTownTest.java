/** Promises 1 to 6: a new object, the tape, the town and its faults, the days. */
public final class TapeAndTownTest {
    private static final String HOUSE = "house at 1 1 rank 1 home sun 0 9;";
    private static final Check CHECK = new Check("TapeAndTownTest");

    public static void main(String[] args) {
        newObject();
        tape();
        towns();
        faultsOfTokens();
        faultsOfBounds();
        faultsOfTests();
        faultsOfMany();
        faultLeavesAll();
        days();
        CHECK.finish();
    }

    private static void newObject() {
        CardBowl x = new CardBowl();
        int[] counts = {0, 0, 0, 0, 0, 0, 0, 0, 3, 0, 0};
        for (int what = 0; what < counts.length; what++) {
            CHECK.due("count(" + what + ") of a new object", x.count(what), counts[what]);
        }
        CHECK.due("count(11)", x.count(11), -1);
        CHECK.due("count(-1)", x.count(-1), -1);
        CHECK.due("fault(0)", x.fault(0), 0);
        CHECK.due("fault(1)", x.fault(1), -1);
        CHECK.due("fault(2)", x.fault(2), -1);
        CHECK.due("fault(-1)", x.fault(-1), -1);
        CHECK.due("first()", x.first(), -1);
        CHECK.due("rings()", x.rings(), 0);
        CHECK.due("debts(0)", x.debts(0), -2);
    }

    private static void tape() {
        CardBowl x = new CardBowl();
        for (int i = 1; i <= 70; i++) {
            CHECK.due("feed " + i, x.feed(i, 0, 0, 0, 0), 20 * i);
        }
        CHECK.due("feed 71", x.feed(1, 1, 1, 1, 1), -1);
        CHECK.due("count(7)", x.count(7), 1400);
        CHECK.due("end(1401)", x.end(1401), -1);
        CHECK.due("end(-1)", x.end(-1), -1);
        CHECK.due("end(1381)", x.end(1381), 1381);
        CHECK.due("feed that would be too many", x.feed(1, 1, 1, 1, 1), -1);
        CHECK.due("end(1380)", x.end(1380), 1380);
        CHECK.due("feed to the last byte", x.feed(1, 1, 1, 1, 1), 1400);
        CHECK.due("end(0)", x.end(0), 0);
        CHECK.due("end(1)", x.end(1), -1);
        // "new 7;" by hand: the highest byte first
        CHECK.due("feed", x.feed(0x6e657720, 0x373b2020, 0x20202020, 0x0a0a0a0a, 0x20202020), 20);
        CHECK.due("town()", x.town(), 0);
        CHECK.due("count(9)", x.count(9), 7);
        CHECK.due("count(7)", x.count(7), 0);
        // bytes cut away are not there any more
        Check.feed(x, "new 8;new 9;");
        x.end(6);
        x.town();
        CHECK.due("count(9) of the first line", x.count(9), 8);
    }

    private static void towns() {
        CardBowl x = new CardBowl();
        CHECK.due("an empty town", x.town(), 0);
        CHECK.due("blanks", Check.town(x, " \n \n"), 0);
        String text = "house at 0 99 rank 9 home sat 180 180 came 399 bride 99;\n"
            + "house at 99 0 rank 0 home mon 0 0 bride 0;house at007 08rank 3home tue 10 20came 5;"
            + "know 0 1; new 99; introduce 9; introduce 1; new 0; new 12;"
            + "sent owes dinner within 0; card owes sent within 99 if day times 2 plus 1 more mine minus known"
            + " and debts less 999 and theirs same theirs;";
        CHECK.due("a full town", Check.town(x, text), 3);
        CHECK.due("fault(0)", x.fault(0), 0);
        CHECK.due("fault(1)", x.fault(1), -1);
        CHECK.due("lines of the code", x.count(1), 2);
        CHECK.due("introducers, the last one", x.count(8), 1);
        CHECK.due("new, the last one", x.count(9), 12);
        CHECK.due("x of 2", x.house(2, 0), 7);
        CHECK.due("y of 2", x.house(2, 1), 8);
        CHECK.due("came of 0", x.house(0, 6), 399);
        CHECK.due("came of 1", x.house(1, 6), 0);
        CHECK.due("known(0, 1)", x.known(0, 1), 1);
        CHECK.due("known(1, 2)", x.known(1, 2), 0);
        x.days(3);
        x.meet(1, 2);
        CHECK.due("another town in its place", Check.town(x, HOUSE + HOUSE), 2);
        CHECK.due("day 0", x.count(2), 0);
        CHECK.due("nothing done", x.count(5), 0);
        CHECK.due("no code", x.count(1), 0);
        CHECK.due("usual introducers", x.count(8), 3);
        CHECK.due("usual new", x.count(9), 0);
        CHECK.due("nobody known", x.known(0, 1), 0);
    }

    private static void faulty(String text, int kind, int place) {
        CardBowl x = new CardBowl();
        CHECK.due("town of " + text, Check.town(x, text), -4);
        CHECK.due("fault of " + text, x.fault(0), kind);
        CHECK.due("place in " + text, x.fault(1), place);
        CHECK.due("the tape is empty behind " + text, x.count(7), 0);
    }

    private static void faultsOfTokens() {
        faulty(";", 1, 0);
        faulty("new 1;;", 1, 6);
        faulty("new 1", 1, 5);
        faulty("new 1 \n", 1, 7);
        faulty("new", 1, 3);
        faulty("new;", 1, 3);
        faulty("new x;", 1, 4);
        faulty("new 1 2;", 1, 6);
        faulty("News 1;", 1, 0);
        faulty("news 1;", 1, 0);
        faulty("ne 1;", 1, 0);
        faulty("newz 1;", 1, 0);
        faulty("znew 1;", 1, 0);
        faulty("new 1{", 1, 5);
        faulty("new 1`", 1, 5);
        faulty("new 1/", 1, 5);
        faulty("new 1:", 1, 5);
        faulty("7 new;", 1, 0);
        faulty("new 1;\t", 1, 6);
        faulty("new 1.;", 1, 5);
        faulty("new 1;" + (char) 233, 1, 6);
        faulty("new 1;" + (char) 0, 1, 6);
        faulty("new -1;", 1, 4);
        faulty("at 1;", 1, 0);
        faulty("house 1 1;", 1, 6);
        faulty("houseat 1 1;", 1, 0);
        faulty("house at 1 1 home;", 1, 13);
        faulty("house at 1 1 rank 1 home day 0 9;", 1, 25);
        faulty("house at 1 1 rank 1 home sun 0;", 1, 30);
        faulty("house at 1 1 rank 1 home sun 0 9 bride 1 came 1;", 1, 41);
        faulty("house at 1 1 rank 1 home sun 0 9 came 1 came 1;", 1, 40);
        faulty("house at 1 1 rank 1 home sun 0 9 came;", 1, 37);
        faulty("know 0", 2, 5);
        faulty("call owes within 1;", 1, 10);
        faulty("call owes meet within 1;", 1, 10);
        faulty("call 1 owes card within 1;", 1, 5);
        faulty("call owes card in 1;", 1, 15);
        faulty("call owes card within 1 and;", 1, 24);
    }

    private static void faultsOfBounds() {
        faulty("new 100;", 2, 4);
        faulty("new 99999999999999999999999999;", 2, 4);
        faulty("new 4294967296;", 2, 4);
        faulty("introduce 0;", 2, 10);
        faulty("introduce 10;", 2, 10);
        faulty("house at 100 1 rank 1 home sun 0 9;", 2, 9);
        faulty("house at 1 100 rank 1 home sun 0 9;", 2, 11);
        faulty("house at 1 1 rank 10 home sun 0 9;", 2, 18);
        faulty("house at 1 1 rank 1 home sun 181 9;", 2, 29);
        faulty("house at 1 1 rank 1 home sun 0 181;", 2, 31);
        faulty("house at 1 1 rank 1 home sun 9 8;", 2, 31);
        faulty("house at 1 1 rank 1 home sun 0 9 came 400;", 2, 38);
        faulty("house at 1 1 rank 1 home sun 0 9 bride 100;", 2, 39);
        faulty(HOUSE + "know 0 1;", 2, 40);
        faulty(HOUSE + "know 0 0;", 2, 40);
        faulty(HOUSE + "know 1 0;", 2, 38);
        faulty(HOUSE + "know 0;", 1, 39);
        faulty(HOUSE + "know 0 1;" + HOUSE, 2, 40);
        faulty("call owes card within 100;", 2, 22);
    }

    private static void faultsOfTests() {
        String line = "call owes card within 1 if ";
        faulty(line + ";", 1, 27);
        faulty(line + "1;", 1, 28);
        faulty(line + "1 same;", 1, 33);
        faulty(line + "1 same 1000;", 2, 34);
        faulty(line + "1 same 1 same 1;", 1, 36);
        faulty(line + "1 and 1 same 1;", 1, 29);
        faulty(line + "1 same 1 and;", 1, 39);
        faulty(line + "1 same 1 and 2;", 1, 41);
        faulty(line + "1 plus plus 1 same 1;", 1, 34);
        faulty(line + "plus 1 same 1;", 1, 27);
        faulty(line + "1 1 same 1;", 1, 29);
        faulty(line + "1 same 1 if 1 same 1;", 1, 36);
        faulty(line + "sun same 1;", 1, 27);
        faulty(line + "1 same known", 1, 39);
        CHECK.due("tokens without blanks", Check.town(new CardBowl(), "call owes card within1if1plus1same2;"), 0);
    }

    private static void faultsOfMany() {
        String sixteen = HOUSE.repeat(16);
        CHECK.due("16 houses", Check.town(new CardBowl(), sixteen), 16);
        faulty(sixteen + HOUSE, 3, 528);
        faulty(sixteen + " house x", 3, 529);
        String line = "call owes card within 1;";
        CardBowl x = Check.with(line.repeat(24));
        CHECK.due("24 lines", x.count(1), 24);
        faulty(line.repeat(24) + "new 100;" + line, 2, 580);
        faulty(line.repeat(24) + "\nsent x", 3, 577);
        faulty(line.repeat(25), 3, 576);
    }

    private static void faultLeavesAll() {
        CardBowl x = Check.with(HOUSE + HOUSE + "know 0 1; card owes card within 3; new 4; introduce 5;");
        x.does(0, 1, 1);
        x.days(2);
        CHECK.due("a fault", Check.town(x, HOUSE + "new 5; introduce 6; card owes;"), -4);
        int[] counts = {2, 1, 2, 1, 0, 1, 0, 0, 5, 4, 0};
        for (int what = 0; what < counts.length; what++) {
            CHECK.due("count(" + what + ") behind a fault", x.count(what), counts[what]);
        }
        CHECK.due("debts(1)", x.debts(1), 1);
        CHECK.due("fault(0)", x.fault(0), 1);
        CHECK.due("town of now without", Check.town(x, HOUSE), 1);
        CHECK.due("fault(0)", x.fault(0), 0);
        CHECK.due("fault(1)", x.fault(1), -1);
    }

    private static void days() {
        CardBowl x = new CardBowl();
        CHECK.due("days(0)", x.days(0), 0);
        CHECK.due("days(60)", x.days(60), 60);
        CHECK.due("days(61)", x.days(61), -2);
        CHECK.due("days(-1)", x.days(-1), -2);
        for (int i = 2; i <= 6; i++) {
            CHECK.due("days(60)", x.days(60), 60 * i);
        }
        CHECK.due("days(40)", x.days(40), -2);
        CHECK.due("days(39)", x.days(39), 399);
        CHECK.due("days(1)", x.days(1), -2);
        CHECK.due("days(0)", x.days(0), 399);
        CHECK.due("days(2147483647)", x.days(Integer.MAX_VALUE), -2);
        CHECK.due("count(2)", x.count(2), 399);
    }
}
