/** Promises 7 to 16: who may call, what is paid and made, who is slighted, what would be owed. */
public final class DeedsTest {
    private static final Check CHECK = new Check("DeedsTest");
    private static final String SUN = "house at 0 0 rank 5 home sun 0 180";
    private static final String MON = "house at 3 4 rank 2 home mon 30 90";

    public static void main(String[] args) {
        barsByKnowing();
        barsByNewcomers();
        barsByDaysAndBrides();
        pays();
        makes();
        testsOfLines();
        greatNumbers();
        sixHundred();
        meets();
        rows();
        debtsTold();
        slighted();
        wouldOwe();
        CHECK.finish();
    }

    private static String of(String... lines) {
        return String.join(";", lines) + ";";
    }

    private static void barsByKnowing() {
        CardBowl x = Check.with(of(SUN, SUN, SUN, SUN, SUN, "know 0 2", "know 1 2", "know 0 3", "introduce 2"));
        CHECK.due("two who know each other", x.bars(0, 2, 0), 0);
        CHECK.due("the other way", x.bars(2, 0, 2), 0);
        CHECK.due("one introducer of two", x.bars(0, 1, 0), 1);
        CHECK.due("meet", x.meet(3, 1), 1);
        CHECK.due("two introducers", x.bars(0, 1, 0), 0);
        CHECK.due("and back", x.bars(1, 0, 3), 0);
        CHECK.due("nobody between", x.bars(0, 4, 1), 1);
        int[][] wrong = {{0, 0, 1}, {0, 5, 1}, {5, 0, 1}, {-1, 0, 1}, {0, -1, 1}, {0, 2, 4}, {0, 2, -1}};
        for (int[] w : wrong) {
            CHECK.due("bars of none such", x.bars(w[0], w[1], w[2]), -2);
            CHECK.due("does of none such", x.does(w[0], w[1], w[2]), -2);
            CHECK.due("owes of none such", x.owes(w[0], w[1], w[2]), -2);
        }
        CHECK.due("does that is barred", x.does(0, 4, 1), -5);
        CHECK.due("nothing happened but the meeting", x.count(5), 1);
        CHECK.due("a card makes nobody known", x.does(0, 1, 1), 0);
        CHECK.due("known(0, 1)", x.known(0, 1), 0);
        CHECK.due("sent makes nobody known", x.does(0, 1, 0), 0);
        CHECK.due("known(0, 1)", x.known(0, 1), 0);
        CHECK.due("a call does", x.does(1, 0, 2), 0);
        CHECK.due("known(0, 1)", x.known(0, 1), 1);
        CHECK.due("known(1, 0)", x.known(1, 0), 1);
        CHECK.due("known(0, 0)", x.known(0, 0), -2);
        CHECK.due("known(0, 5)", x.known(0, 5), -2);
        CHECK.due("known(-1, 0)", x.known(-1, 0), -2);
        CardBowl y = Check.with(of(SUN, SUN + " came 7", "new 3"));
        y.days(7);
        CHECK.due("a dinner", y.does(0, 1, 3), 0);
        CHECK.due("makes known", y.known(0, 1), 1);
    }

    private static void barsByNewcomers() {
        CardBowl x = Check.with(of(SUN, SUN + " came 10", SUN + " came 12", "new 4", "know 0 2"));
        CHECK.due("not there, though known", x.bars(0, 2, 0), 1);
        CHECK.due("itself not there", x.bars(2, 0, 0), 1);
        CHECK.due("not there yet", x.bars(0, 1, 0), 1);
        x.days(9);
        CHECK.due("the day ahead", x.bars(0, 1, 0), 1);
        x.days(1);
        CHECK.due("the day on which it came", x.bars(0, 1, 0), 0);
        CHECK.due("a newcomer goes not first", x.bars(1, 0, 0), 1);
        x.days(2);
        CHECK.due("two newcomers", x.bars(1, 2, 0), 1);
        CHECK.due("known and there", x.bars(2, 0, 0), 0);
        x.days(2);
        CHECK.due("new for the last day", x.bars(0, 1, 0), 0);
        CHECK.due("still a newcomer", x.bars(1, 2, 0), 1);
        x.days(1);
        CHECK.due("no more new", x.bars(0, 1, 0), 1);
        CHECK.due("no newcomer any more", x.bars(1, 2, 0), 0);
        CardBowl y = Check.with(of(SUN, SUN));
        CHECK.due("all new on day 0", y.bars(0, 1, 0), 1);
    }

    private static void barsByDaysAndBrides() {
        CardBowl x = Check.with(of(SUN, MON + " came 1 bride 7", "know 0 1"));
        CHECK.due("not there and not at home", x.bars(0, 1, 2), 1);
        x.days(1);
        CHECK.due("her monday", x.bars(0, 1, 2), 0);
        CHECK.due("a bride may send", x.bars(1, 0, 0), 0);
        CHECK.due("and leave cards", x.bars(1, 0, 1), 0);
        CHECK.due("not at home, and she waits", x.bars(1, 0, 2), 2);
        x.days(6);
        CHECK.due("a sunday, she waits", x.bars(1, 0, 2), 3);
        CHECK.due("with a dinner too", x.bars(1, 0, 3), 3);
        x.days(1);
        CHECK.due("the last day of waiting", x.bars(1, 0, 2), 2);
        x.days(6);
        CHECK.due("she waits no more", x.bars(1, 0, 2), 0);
        CHECK.due("no monday", x.bars(0, 1, 3), 2);
        CardBowl y = Check.with(of(SUN, SUN + " bride 0", SUN + " bride 7", "know 0 1", "know 0 2"));
        CHECK.due("a bride of 0", y.bars(1, 0, 2), 0);
        y.days(7);
        CHECK.due("the seventh day", y.bars(2, 0, 2), 3);
        y.days(7);
        CHECK.due("a week later", y.bars(2, 0, 2), 0);
    }

    private static final String ALL_KINDS = "sent owes sent within 1;card owes card within 2;"
        + "call owes call within 3;dinner owes dinner within 4;";

    private static void pays() {
        CardBowl x = Check.with(of(SUN, SUN, SUN, "know 0 1", "know 0 2") + ALL_KINDS);
        for (int paying = 3; paying >= 0; paying--) {
            CHECK.due("nothing paid", x.does(0, 1, paying), 0);
        }
        x.does(0, 2, 0);
        x.does(2, 0, 3);
        CHECK.due("debts(1)", x.debts(1), 4);
        CHECK.due("debts(2), its own paid", x.debts(2), 0);
        CHECK.due("count(6)", x.count(6), 1);
        CHECK.due("a call pays call, card and sent", x.does(1, 0, 2), 3);
        CHECK.due("debts(1)", x.debts(1), 1);
        CHECK.due("the dinner is left", x.debt(1, 0, 1), 3);
        CHECK.due("sent pays no dinner", x.does(1, 0, 0), 0);
        CHECK.due("a dinner does", x.does(1, 0, 3), 1);
        CHECK.due("count(6)", x.count(6), 5);
        CHECK.due("and all made debts of 0", x.debts(0), 4);
        CHECK.due("count(3)", x.count(3), 4);
    }

    private static void makes() {
        CardBowl x = Check.with(of(SUN, SUN, "know 0 1") + "card owes call within 99;call owes call within 1;");
        x.days(60);
        x.does(0, 1, 1);
        CHECK.due("due", x.debt(1, 0, 2), 159);
        CHECK.due("came", x.debt(1, 0, 3), 60);
        CHECK.due("owed nothing more", x.owes(0, 1, 1), -1);
        x.days(3);
        x.does(0, 1, 2);
        CHECK.due("of like kind there is one", x.debts(1), 1);
        CHECK.due("as it was", x.debt(1, 0, 2), 159);
        CHECK.due("sent has no line", x.owes(0, 1, 0), -1);
        for (int i = 0; i < 5; i++) {
            x.days(60);
        }
        x.does(1, 0, 1);
        CHECK.due("due no later than 399", x.debt(0, 0, 2), 399);
        CHECK.due("came", x.debt(0, 0, 3), 363);
    }

    /** What a card from a house of rank 5 to one of rank 2 makes owed if the test holds: 3, else -1. */
    private static int holds(String test) {
        CardBowl x = Check.with(of(SUN, MON, "know 0 1") + "card owes dinner within 9 if " + test + ";");
        x.days(4);
        return x.owes(0, 1, 1);
    }

    private static void testsOfLines() {
        CHECK.due("mine same 5", holds("mine same 5"), 3);
        CHECK.due("theirs same 2", holds("theirs same 2"), 3);
        CHECK.due("day same 4", holds("day same 4"), 3);
        CHECK.due("known same 1", holds("known same 1"), 3);
        CHECK.due("debts same 0", holds("debts same 0"), 3);
        CHECK.due("more", holds("mine more 4"), 3);
        CHECK.due("not more", holds("mine more 5"), -1);
        CHECK.due("less", holds("mine less 6"), 3);
        CHECK.due("not less", holds("mine less 5"), -1);
        CHECK.due("not same", holds("mine same 6"), -1);
        CHECK.due("times ahead of plus", holds("2 plus 3 times 4 same 14"), 3);
        CHECK.due("from left to right", holds("9 minus 3 minus 2 plus 1 same mine"), 3);
        CHECK.due("below 0", holds("theirs minus mine times 2 less 0 minus 7"), 3);
        CHECK.due("and, both", holds("mine same 5 and theirs same 2"), 3);
        CHECK.due("and, the first not", holds("mine same 4 and theirs same 2"), -1);
        CHECK.due("and, the last not", holds("1 same 1 and mine same 5 and theirs same 3"), -1);
        CardBowl x = Check.with(of(SUN, MON, SUN, "know 0 1", "know 2 1") + "card owes sent within 1 if theirs more 2;"
            + "card owes card within 1 if debts more 0;card owes dinner within 1;");
        CHECK.due("the first line that holds", x.owes(0, 1, 1), 3);
        CHECK.due("another way", x.owes(1, 0, 1), 0);
        x.does(0, 1, 1);
        CHECK.due("debts to anybody", x.owes(2, 1, 1), 1);
        CardBowl y = Check.with(of(SUN, SUN + " came 1", "new 60", "introduce 9") + "call owes sent within 1 if known"
            + " same 0; call owes card within 1;");
        y.days(60);
        y.days(1);
        y.days(2);
        CHECK.due("not new any more", y.bars(0, 1, 2), 1);
        CardBowl z = Check.with(of(SUN, SUN + " came 1", "new 20") + "call owes sent within 1 if known same 0;"
            + "call owes card within 1;");
        z.days(21);
        z.does(0, 1, 2);
        CHECK.due("known ahead of the call", z.debt(1, 0, 1), 0);
        z.does(0, 1, 2);
        CHECK.due("now known", z.debt(1, 1, 1), 1);
    }

    private static void greatNumbers() {
        CHECK.due("a thousand million", holds("500 times 500 times 500 times 8 same 500 times 250 times 800 times 10"), 3);
        CHECK.due("one more", holds("500 times 500 times 500 times 8 plus 1 more 0"), -1);
        CHECK.due("as far below 0", holds("0 minus 500 times 500 times 500 times 8 less 0"), 3);
        CHECK.due("one less", holds("0 minus 500 times 500 times 500 times 8 minus 1 less 0"), -1);
        CHECK.due("too great on the way", holds("999 times 999 times 999 times 999 times 0 same 0"), -1);
        CHECK.due("too great on the right", holds("0 same 999 times 999 times 999 times 999 times 0"), -1);
        CHECK.due("beyond a long", holds("1 less 999 times 999 times 999 times 999 times 999 times 999 times 999"
            + " times 999 times 999"), -1);
        CardBowl x = Check.with(of(SUN, MON, "know 0 1") + "card owes sent within 1 if 999 times 999 times 999 times 2"
            + " more 1; card owes card within 1;");
        CHECK.due("then the next line", x.owes(0, 1, 1), 1);
    }

    private static void sixHundred() {
        CardBowl x = Check.with(of(SUN, MON, SUN, "know 0 1") + "sent owes sent within 1;");
        Check.row(x, 0, new long[60]);
        for (int i = 0; i < 60; i += 3) {
            x.write(0, i + 1, 1);
        }
        for (int i = 0; i < 29; i++) {
            CHECK.due("done", x.done(0), 20);
        }
        x.write(0, 59, 4);
        CHECK.due("done", x.done(0), 20);
        CHECK.due("count(5)", x.count(5), 600);
        CHECK.due("one more", x.does(0, 1, 0), -3);
        CHECK.due("one that is barred", x.does(0, 1, 2), -5);
        CHECK.due("of strangers", x.does(0, 2, 0), -5);
        CHECK.due("none such", x.does(0, 3, 0), -2);
        CHECK.due("meet", x.meet(0, 2), -3);
        CHECK.due("meet none such", x.meet(0, 3), -2);
        CHECK.due("known(0, 2)", x.known(0, 2), 0);
        CHECK.due("done", x.done(0), 0);
        CHECK.due("debts(1)", x.debts(1), 1);
        CHECK.due("count(5)", x.count(5), 600);
    }

    private static void meets() {
        CardBowl x = Check.with(of(SUN, SUN + " came 50", SUN, "know 0 2"));
        CHECK.due("not there yet", x.meet(0, 1), 1);
        CHECK.due("again", x.meet(1, 0), 0);
        CHECK.due("who were told", x.meet(2, 0), 0);
        CHECK.due("all are done", x.count(5), 3);
        CHECK.due("meet(1, 1)", x.meet(1, 1), -2);
        CHECK.due("meet(-1, 1)", x.meet(-1, 1), -2);
        CHECK.due("meet(1, 3)", x.meet(1, 3), -2);
        CHECK.due("count(5)", x.count(5), 3);
        CHECK.due("known(0, 1)", x.known(0, 1), 1);
    }

    private static void rows() {
        CardBowl x = Check.with(of(SUN, SUN, SUN, "know 0 1") + "sent owes sent within 1;");
        CHECK.due("done(-1)", x.done(-1), -2);
        CHECK.due("done(4)", x.done(4), -2);
        CHECK.due("done of nothing", x.done(3), -6);
        Check.row(x, 3);
        CHECK.due("done of none", x.done(3), 0);
        Check.row(x, 3, 0, 1, 0, 1, 2, 4, 0, 2, 0, 1, 1, 4, 2, 1, 2, 0, 1, 5, 0, 3, 4, 1, 0);
        CHECK.due("sent, a meeting, a call; others are refused, two left over", x.done(3), 3);
        CHECK.due("count(5)", x.count(5), 3);
        CHECK.due("debts(1)", x.debts(1), 1);
        CHECK.due("known(1, 2)", x.known(1, 2), 1);
        Check.row(x, 2, 1L << 32, 1, 0, 0, (1L << 32) + 1, 0, 0, 1, 1L << 32, -1, 0, 0);
        CHECK.due("long numbers are no houses", x.done(2), 0);
        x.row(1, 0, 3);
        x.write(1, 0, 256);
        x.write(1, 1, 257);
        x.write(1, 2, -256);
        CHECK.due("cut to a byte", x.done(1), 1);
    }

    private static void debtsTold() {
        CardBowl x = Check.with(of(SUN, SUN, SUN, "know 0 1", "know 2 1") + ALL_KINDS);
        x.does(2, 1, 1);
        x.days(1);
        x.does(0, 1, 0);
        x.does(0, 1, 1);
        CHECK.due("debts(1)", x.debts(1), 3);
        CHECK.due("debts(3)", x.debts(3), -2);
        CHECK.due("debts(-1)", x.debts(-1), -2);
        int[][] want = {{2, 1, 2, 0}, {0, 0, 2, 1}, {0, 1, 3, 1}};
        for (int i = 0; i < 3; i++) {
            for (int what = 0; what < 4; what++) {
                CHECK.due("debt(1, " + i + ", " + what + ")", x.debt(1, i, what), want[i][what]);
            }
        }
        CHECK.due("debt(1, 3, 0)", x.debt(1, 3, 0), -1);
        CHECK.due("debt(1, -1, 0)", x.debt(1, -1, 0), -1);
        CHECK.due("debt(1, 0, 4)", x.debt(1, 0, 4), -1);
        CHECK.due("debt(1, 0, -1)", x.debt(1, 0, -1), -1);
        CHECK.due("debt(3, 0, 0)", x.debt(3, 0, 0), -1);
        CHECK.due("debt(-1, 0, 0)", x.debt(-1, 0, 0), -1);
        x.does(1, 0, 0);
        CHECK.due("the one between is paid", x.debt(1, 1, 1), 1);
        CHECK.due("and 0 owes now", x.debt(0, 0, 0), 1);
    }

    private static void slighted() {
        CardBowl x = Check.with(of(SUN, "house at 0 0 rank 7 home sun 0 9", "house at 0 0 rank 7 home sun 0 9", SUN,
            "know 0 1", "know 0 2", "know 0 3", "know 1 3") + "card owes card within 2; sent owes sent within 9;");
        x.does(0, 3, 1);
        x.does(1, 3, 1);
        x.does(2, 0, 1);
        x.days(2);
        CHECK.due("due today", x.slights(0), 0);
        CHECK.due("none is", x.first(), -1);
        CHECK.due("count(4)", x.count(4), 0);
        x.days(1);
        CHECK.due("due ahead of today", x.slights(0), 1);
        CHECK.due("slights(3)", x.slights(3), 0);
        CHECK.due("slights(4)", x.slights(4), -2);
        CHECK.due("slights(-1)", x.slights(-1), -2);
        CHECK.due("count(4)", x.count(4), 3);
        CHECK.due("the greater rank, the first of two", x.first(), 1);
        x.does(3, 1, 1);
        CHECK.due("the other of them", x.first(), 2);
        x.does(0, 1, 1);
        x.days(3);
        CHECK.due("more of them count first", x.slights(0), 2);
        CHECK.due("first()", x.first(), 0);
    }

    private static void wouldOwe() {
        CardBowl x = Check.with(of(SUN, MON + " came 9", "introduce 9") + ALL_KINDS);
        CHECK.due("whether it may or not", x.owes(0, 1, 2), 2);
        CHECK.due("dinner", x.owes(0, 1, 3), 3);
        CHECK.due("nothing happens", x.count(3) + x.count(5), 0);
    }
}
