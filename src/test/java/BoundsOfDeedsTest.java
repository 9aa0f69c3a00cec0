/** Terms II, III and IV and promises 7 to 16, at their bounds: the last that is within, the first that is not. */
public final class BoundsOfDeedsTest {
    private static final Bounds B = new Bounds("BoundsOfDeedsTest");
    private static final String THREE = Bounds.houses(3) + Bounds.know(0, 1, 0, 2);
    /** A thousand million, as a product. */
    private static final String GREATEST = "500 times 500 times 500 times 8";

    public static void main(String[] args) {
        termIIWeekdays();
        termIIThere();
        termIIPays();
        termIIFirstLine();
        termIISigns();
        termIIDue();
        termIILikeKind();
        termIIParts();
        termIIKnown();
        termIIGreatNumbers();
        termIIWrappedNumbers();
        termIIIKnown();
        termIIIThere();
        termIIINew();
        termIIINewcomers();
        termIIIIntroducers();
        termIIIWeekday();
        termIIIWaits();
        termIIILeast();
        termIVSlighted();
        promise7Bars();
        promise8Does();
        promise8MayNot();
        promise8SixHundred();
        promise9Meet();
        promise9SixHundred();
        promise10Done();
        promise10LeftOver();
        promise10Refused();
        promise10SixHundred();
        promise11Known();
        promise12Debts();
        promise13Debt();
        promise14Slights();
        promise15First();
        promise16Owes();
        B.finish("Term II", "Term III", "Term IV", "promise 7", "promise 8", "promise 9", "promise 10", "promise 11",
            "promise 12", "promise 13", "promise 14", "promise 15", "promise 16");
    }

    private static void termIIWeekdays() {
        B.term("II", "DAYS 0 .. 399; DAY 0 is a sun, and so on by sevens");
        StringBuilder text = new StringBuilder(Bounds.houses(1));
        for (int weekday = 0; weekday < 7; weekday++) {
            text.append(Bounds.home(weekday, 0, 180));
        }
        for (int b = 1; b <= 7; b++) {
            text.append(Bounds.know(0, b));
        }
        CardBowl x = Check.with(text.toString());
        int[] days = {0, 1, 6, 7, 8, 13, 14, 120, 127, 128, 255, 256, 392, 398, 399};
        for (int day : days) {
            Bounds.go(x, day);
            for (int weekday = 0; weekday < 7; weekday++) {
                B.due("DAY " + day + ", home " + Bounds.WEEKDAYS[weekday], x.bars(0, 1 + weekday, 2), weekday == day % 7 ? 0 : 2);
            }
        }
    }

    private static void termIIThere() {
        B.term("II", "A HOUSE is there from the DAY on which it came");
        int[] days = {1, 5, 399};
        for (int day : days) {
            CardBowl x = Check.with(Bounds.houses(1) + Bounds.with(0, "came " + day) + Bounds.know(0, 1));
            Bounds.go(x, day - 1);
            B.due("the day ahead, to it", x.bars(0, 1, 1), 1);
            B.due("the day ahead, from it", x.bars(1, 0, 1), 1);
            x.days(1);
            B.due("the day itself, to it", x.bars(0, 1, 1), 0);
            B.due("the day itself, from it", x.bars(1, 0, 1), 0);
        }
    }

    private static void termIIPays() {
        B.term("II", "pays all open DEBTS of a to b of its KIND or a lower one");
        for (int paying = 0; paying < 4; paying++) {
            CardBowl x = Check.with(THREE + Bounds.know(1, 2) + Bounds.LIKE_FOR_LIKE);
            for (int kind = 0; kind < 4; kind++) {
                x.does(0, 1, kind);
                x.does(2, 1, kind);
                x.does(0, 2, kind);
            }
            B.due("1 owes", x.debts(1), 8);
            B.due("does(1, 0, " + paying + ")", x.does(1, 0, paying), paying + 1);
            B.due("what is left of 1", x.debts(1), 7 - paying);
            B.due("what 2 owes stays", x.debts(2), 4);
            B.due("0 owes what it made", x.debts(0), 1);
            B.due("again, none is left", x.does(1, 0, paying), 0);
            int left = 0;
            for (int i = 0; i < x.debts(1); i++) {
                if (x.debt(1, i, 0) == 0) {
                    left++;
                    B.due("a higher KIND is left", x.debt(1, i, 1), paying + left);
                }
            }
            B.due("all higher ones are left", left, 3 - paying);
            for (int kind = 0; kind < 4; kind++) {
                B.due("of KIND " + kind + " there could be a new one", x.owes(0, 1, kind), kind > paying ? -1 : kind);
            }
            B.due("the other way, its own", x.does(0, 1, paying), 1);
        }
    }

    private static void termIIFirstLine() {
        B.term("II", "Then the first LINE of the CODE for this PAYING of which all TESTS hold makes a DEBT of b to a of the KIND behind owes");
        String other = "sent owes dinner within 1;";
        B.due("none for it", Check.with(THREE + other).owes(0, 1, 1), -1);
        B.due("one", Check.with(THREE + other + "card owes call within 1;").owes(0, 1, 1), 2);
        B.due("of two the first", Check.with(THREE + "card owes call within 1;card owes card within 1;").owes(0, 1, 1), 2);
        B.due("the first does not hold", Check.with(THREE + "card owes call within 1 if 1 less 1;card owes card within 1;").owes(0, 1, 1), 1);
        B.due("one without TESTS ahead of one with", Check.with(THREE + "card owes call within 1;card owes card within 1 if 5 same 5;").owes(0, 1, 1), 2);
        B.due("and behind it", Check.with(THREE + "card owes card within 1 if 5 same 6;card owes call within 1;sent owes sent within 1 if 5 same 5;").owes(0, 1, 1), 2);
        B.due("none holds", Check.with(THREE + "card owes call within 1 if 1 less 1;card owes card within 1 if 1 more 1;").owes(0, 1, 1), -1);
        String all = "1 same 1 and 1 less 2 and 2 more 1";
        B.due("all hold", holds(all), 1);
        B.due("the first does not", holds("1 same 2 and 1 less 2 and 2 more 1"), 0);
        B.due("the middle one does not", holds("1 same 1 and 2 less 2 and 2 more 1"), 0);
        B.due("the last does not", holds("1 same 1 and 1 less 2 and 2 more 2"), 0);
        CardBowl x = Check.with(THREE + "card owes call within 1;");
        x.does(0, 1, 1);
        B.due("of b to a", x.debt(1, 0, 0), 0);
        B.due("a owes nothing by it", x.debts(0), 0);
    }

    /** 1 if a card from house 0 (rank 1) to house 1 (rank 1) makes a debt under this test. */
    private static int holds(String test) {
        CardBowl x = Check.with(THREE + "card owes sent within 1 if " + test + ";");
        x.does(0, 1, 1);
        return x.debts(1);
    }

    private static void termIISigns() {
        B.term("II", "of which all TESTS hold");
        for (int left = 0; left < 3; left++) {
            for (int right = 0; right < 3; right++) {
                B.due(left + " more " + right, holds(left + " more " + right), left > right ? 1 : 0);
                B.due(left + " less " + right, holds(left + " less " + right), left < right ? 1 : 0);
                B.due(left + " same " + right, holds(left + " same " + right), left == right ? 1 : 0);
                String below = "0 minus " + left;
                B.due(below + " more 0 minus " + right, holds(below + " more 0 minus " + right), left < right ? 1 : 0);
                B.due(below + " less 0 minus " + right, holds(below + " less 0 minus " + right), left > right ? 1 : 0);
                B.due(below + " same 0 minus " + right, holds(below + " same 0 minus " + right), left == right ? 1 : 0);
            }
        }
    }

    private static void termIIDue() {
        B.term("II", "due so many DAYS from today (no more than DAY 399)");
        int[][] cases = {{0, 0, 0}, {0, 99, 99}, {299, 99, 398}, {300, 99, 399}, {301, 99, 399}, {398, 1, 399}, {399, 0, 399},
            {399, 1, 399}, {399, 99, 399}};
        for (int[] c : cases) {
            CardBowl x = Check.with(THREE + "card owes card within " + c[1] + ";");
            Bounds.go(x, c[0]);
            x.does(0, 1, 1);
            B.due("from DAY " + c[0] + " within " + c[1], x.debt(1, 0, 2), c[2]);
            B.due("it came", x.debt(1, 0, 3), c[0]);
        }
    }

    private static void termIILikeKind() {
        B.term("II", "if b owes a an open one of like KIND already, it stays the only one, as it was");
        CardBowl x = Check.with(THREE + Bounds.know(1, 2) + Bounds.LIKE_FOR_LIKE);
        x.does(0, 1, 1);
        x.days(3);
        x.does(0, 1, 1);
        B.due("the only one", x.debts(1), 1);
        B.due("due as it was", x.debt(1, 0, 2), 9);
        B.due("came as it was", x.debt(1, 0, 3), 0);
        x.does(0, 1, 0);
        B.due("another KIND", x.debts(1), 2);
        x.does(2, 1, 1);
        B.due("to another HOUSE", x.debts(1), 3);
        x.does(1, 0, 1);
        B.due("paid, and of the other way", x.debts(1), 1);
        x.does(0, 1, 1);
        B.due("no open one any more: a new one", x.debts(1), 2);
        B.due("behind the others", x.debt(1, 1, 0), 0);
        B.due("came anew", x.debt(1, 1, 3), 3);
        B.due("due anew", x.debt(1, 1, 2), 12);
        B.due("done in all", x.count(5), 6);
    }

    private static void termIIParts() {
        B.term("II", "mine: rank of a, theirs: of b, debts: how many open DEBTS b has, day: the DAY");
        CardBowl x = Check.with(Bounds.ranked(0) + Bounds.ranked(9) + Bounds.ranked(4) + Bounds.know(0, 1, 0, 2, 1, 2)
            + "sent owes sent within 1 if mine same 0 and theirs same 9;sent owes card within 1 if mine same 9 and theirs same 0;"
            + "card owes card within 1 if debts same 0;card owes call within 1 if debts same 1;card owes dinner within 1 if debts same 2;"
            + "call owes sent within 1 if day same 0;call owes card within 1 if day same 399;");
        B.due("from rank 0 to 9", x.owes(0, 1, 0), 0);
        B.due("from rank 9 to 0", x.owes(1, 0, 0), 1);
        B.due("from rank 0 to 4", x.owes(0, 2, 0), -1);
        B.due("DAY 0", x.owes(0, 1, 2), 0);
        B.due("no debts", x.owes(0, 1, 1), 1);
        x.does(0, 1, 1);
        B.due("one", x.owes(0, 1, 1), 2);
        B.due("to whomever it has it", x.owes(2, 1, 1), 2);
        x.does(2, 1, 1);
        B.due("two", x.owes(0, 1, 1), 3);
        B.due("those of a do not count", x.owes(1, 2, 1), 1);
        x.does(0, 1, 1);
        B.due("three", x.owes(2, 1, 1), -1);
        x.does(1, 0, 3);
        B.due("paid ones do not count", x.owes(0, 1, 1), 2);
        x.days(1);
        B.due("DAY 1", x.owes(0, 1, 2), -1);
        Bounds.go(x, 399);
        B.due("DAY 399", x.owes(0, 1, 2), 1);
    }

    private static void termIIKnown() {
        B.term("II", "known: 1 if they knew each other ahead of it, else 0");
        for (int paying = 0; paying < 4; paying++) {
            CardBowl x = Check.with(Bounds.houses(1) + Bounds.with(0, "came 7") + Bounds.PAYINGS[paying]
                + " owes sent within 1 if known same 0;" + Bounds.PAYINGS[paying] + " owes card within 1 if known same 1;");
            x.days(7);
            B.due("strangers", x.owes(0, 1, paying), 0);
            x.does(0, 1, paying);
            B.due("ahead of it they were strangers", x.debt(1, 0, 1), 0);
            x.does(0, 1, paying);
            B.due("a call or a dinner made them known", x.debts(1), paying < 2 ? 1 : 2);
            x.meet(0, 1);
            B.due("behind a meeting", x.owes(0, 1, paying), paying < 2 ? 1 : -1);
        }
    }

    private static void termIIGreatNumbers() {
        B.term("II", "A TEST does not hold, if a number on the way is beyond 1,000,000,000 either way");
        B.due("that number", holds(GREATEST + " more 0"), 1);
        B.due("that number on the right", holds("0 less " + GREATEST), 1);
        B.due("both sides", holds(GREATEST + " same " + GREATEST), 1);
        B.due("the next product above it", holds("504 times 109 times 109 times 167 more 0"), 0);
        B.due("the same on the right", holds("0 less 504 times 109 times 109 times 167"), 0);
        B.due("one more, a sum", holds(GREATEST + " plus 1 more 0"), 0);
        B.due("one more, the other way round", holds("1 plus " + GREATEST + " more 0"), 0);
        B.due("one more on the right", holds("0 less " + GREATEST + " plus 1"), 0);
        B.due("that number below 0", holds("0 minus " + GREATEST + " less 0"), 1);
        B.due("one less", holds("0 minus " + GREATEST + " minus 1 less 0"), 0);
        B.due("one less on the right", holds("0 more 0 minus 1 minus " + GREATEST), 0);
        B.due("beyond, and back", holds(GREATEST + " plus 1 minus 1 more 0"), 0);
        B.due("beyond below 0, and back", holds("0 minus " + GREATEST + " minus 1 plus 1 less 0"), 0);
        B.due("beyond, then times 0", holds("504 times 109 times 109 times 167 times 0 same 0"), 0);
        B.due("a product that is taken off", holds(GREATEST + " minus 504 times 109 times 109 times 167 less 0"), 0);
        B.due("to that number and back", holds(GREATEST + " plus 0 minus 1 less " + GREATEST), 1);
        B.due("times 0 ahead", holds("0 times 999 times 999 times 999 times 999 same 0"), 1);
        B.due("in the second TEST", holds("1 same 1 and " + GREATEST + " plus 1 more 0"), 0);
        B.due("in the first TEST", holds(GREATEST + " plus 1 more 0 and 1 same 1"), 0);
        CardBowl x = Check.with(THREE + "card owes sent within 1 if " + GREATEST + " plus 1 more 0;card owes call within 1;");
        B.due("then the next LINE", x.owes(0, 1, 1), 2);
        CardBowl y = Check.with(THREE + "card owes sent within 1 if " + GREATEST + " plus 1 more 0;card owes call within 1 if 1 same 1;"
            + "sent owes card within 1 if 1 same 1;");
        B.due("then the next LINE, with a TEST", y.owes(0, 1, 1), 2);
        B.due("and of another PAYING", y.owes(0, 1, 0), 1);
    }

    private static void termIIWrappedNumbers() {
        B.term("II", "beyond 1,000,000,000 either way");
        String twoTo27 = "512 times 512 times 512";
        B.due("2 to the 32nd is not 0", holds(twoTo27 + " times 32 same 0"), 0);
        B.due("2 to the 31st is not below 0", holds(twoTo27 + " times 16 less 0"), 0);
        B.due("2 to the 64th is not 0", holds(twoTo27 + " times " + twoTo27 + " times 512 times 2 same 0"), 0);
        B.due("2 to the 63rd is not below 0", holds(twoTo27 + " times " + twoTo27 + " times 512 less 0"), 0);
        B.due("nor is it more", holds(twoTo27 + " times " + twoTo27 + " times 512 more 0"), 0);
        String five = GREATEST + " plus " + GREATEST + " plus " + GREATEST + " plus " + GREATEST + " plus " + GREATEST;
        B.due("a sum", holds(five + " more 0"), 0);
        B.due("a sum, less", holds(five + " less 0"), 0);
    }

    private static void termIIIKnown() {
        B.term("III", "Who knows whom: as told, and then: who meet; who calls on, or dines, another one, with it");
        String text = Bounds.houses(1) + Bounds.with(0, "came 7") + Bounds.houses(1) + Bounds.know(0, 2);
        for (int paying = 0; paying < 4; paying++) {
            CardBowl x = Check.with(text);
            x.days(7);
            B.due("as told", x.known(0, 2), 1);
            B.due("not told", x.known(0, 1), 0);
            B.due("does(0, 1, " + paying + ")", x.does(0, 1, paying), 0);
            B.due("then", x.known(0, 1), paying < 2 ? 0 : 1);
            B.due("with it", x.known(1, 0), paying < 2 ? 0 : 1);
            B.due("none else", x.known(1, 2), 0);
        }
        CardBowl y = Check.with(text);
        y.meet(1, 2);
        B.due("who meet", y.known(1, 2), 1);
        B.due("and back", y.known(2, 1), 1);
        B.due("none else", y.known(0, 1), 0);
    }

    private static void termIIIThere() {
        B.term("III", "a may, if b and a are there (else 1), and they know each other");
        for (int paying = 0; paying < 4; paying++) {
            CardBowl x = Check.with(Bounds.houses(2) + Bounds.with(0, "came 14") + Bounds.with(0, "came 14") + Bounds.know(0, 1, 0, 2, 2, 3));
            B.due("known, both there", x.bars(0, 1, paying), 0);
            B.due("b is not", x.bars(0, 2, paying), 1);
            B.due("a is not", x.bars(2, 0, paying), 1);
            B.due("neither is", x.bars(2, 3, paying), 1);
            x.days(13);
            B.due("the day ahead", x.bars(0, 2, 0), 1);
            x.days(1);
            B.due("b came", x.bars(0, 2, paying), 0);
            B.due("a came", x.bars(2, 0, paying), 0);
            B.due("both came", x.bars(2, 3, paying), 0);
            x.days(7);
            B.due("strangers, both there", x.bars(1, 2, paying), 1);
        }
        CardBowl y = Check.with(Bounds.houses(2));
        y.days(7);
        for (int paying = 0; paying < 4; paying++) {
            B.due("strangers", y.bars(0, 1, paying), 1);
        }
    }

    private static void termIIINew() {
        B.term("III", "b is NEW (came not more than new DAYS ago");
        int[] fresh = {0, 1, 4, 99};
        for (int n : fresh) {
            CardBowl x = Check.with(Bounds.houses(1) + Bounds.with(0, "came 100") + "new " + n + ";");
            Bounds.go(x, 99);
            B.due("new " + n + ", the day ahead", x.bars(0, 1, 0), 1);
            x.days(1);
            B.due("new " + n + ", the day itself", x.bars(0, 1, 0), 0);
            Bounds.go(x, 100 + n);
            B.due("new " + n + ", the last day", x.bars(0, 1, 0), 0);
            x.days(1);
            B.due("new " + n + ", the day behind it", x.bars(0, 1, 0), 1);
        }
    }

    private static void termIIINewcomers() {
        B.term("III", "not today's newcomer a itself: a is not NEW)");
        CardBowl x = Check.with(Bounds.houses(1) + Bounds.with(0, "came 9") + Bounds.with(0, "came 10") + "new 4;");
        x.days(4);
        B.due("a came on DAY 0, b not yet", x.bars(0, 1, 0), 1);
        x.days(6);
        B.due("a is not NEW", x.bars(0, 2, 0), 0);
        B.due("a is", x.bars(1, 2, 0), 1);
        B.due("both are, the other way", x.bars(2, 1, 0), 1);
        B.due("a is, b is not", x.bars(2, 0, 0), 1);
        x.days(3);
        B.due("the last day on which a is NEW", x.bars(1, 2, 0), 1);
        x.days(1);
        B.due("a is NEW no more, b still", x.bars(1, 2, 0), 0);
        B.due("b to a, that is NEW no more", x.bars(2, 1, 0), 1);
        x.days(1);
        B.due("neither is", x.bars(1, 2, 0), 1);
        CardBowl y = Check.with(Bounds.houses(2));
        B.due("all came on DAY 0", y.bars(0, 1, 0), 1);
    }

    private static void termIIIIntroducers() {
        B.term("III", "b is known to as many HOUSES that a knows as the introducers, or more (else 1)");
        for (int n = 1; n <= 9; n++) {
            StringBuilder text = new StringBuilder(Bounds.houses(2 + n + 1) + "introduce " + n + ";");
            for (int c = 2; c < 2 + n; c++) {
                text.append(Bounds.know(0, c));
                if (c > 2) {
                    text.append(Bounds.know(1, c));
                }
            }
            CardBowl x = Check.with(text.toString());
            B.due("one fewer than " + n, x.bars(0, 1, 0), 1);
            x.meet(1, 2 + n);
            B.due("one whom a does not know counts not", x.bars(0, 1, 0), 1);
            x.meet(1, 2);
            B.due("as many as " + n, x.bars(0, 1, 0), 0);
            B.due("the other way", x.bars(1, 0, 2), 0);
            x.meet(0, 2 + n);
            B.due("one more", x.bars(0, 1, 3), 0);
        }
        CardBowl usual = Check.with(Bounds.houses(5) + Bounds.know(0, 2, 0, 3, 0, 4, 1, 2, 1, 3));
        B.due("two of the usual three", usual.bars(0, 1, 0), 1);
        usual.meet(4, 1);
        B.due("the usual three", usual.bars(0, 1, 0), 0);
    }

    private static void termIIIWeekday() {
        B.term("III", "call, dinner, too: today is b's weekday (else 2)");
        CardBowl x = Check.with(Bounds.home(0, 0, 180) + Bounds.home(3, 0, 180) + Bounds.know(0, 1));
        for (int day = 0; day <= 7; day++) {
            for (int paying = 0; paying < 4; paying++) {
                B.due("DAY " + day + ", paying " + paying, x.bars(0, 1, paying), paying < 2 || day == 3 ? 0 : 2);
                B.due("DAY " + day + ", the other way, " + paying, x.bars(1, 0, paying), paying < 2 || day % 7 == 0 ? 0 : 2);
            }
            x.days(1);
        }
    }

    private static void termIIIWaits() {
        B.term("III", "it waits, if today is not more than its bride DAYS behind that on which it came (a bride of 0 waits not)");
        int[][] brides = {{0, 0}, {0, 1}, {0, 8}, {3, 0}, {3, 1}, {3, 11}, {3, 99}};
        for (int[] b : brides) {
            StringBuilder text = new StringBuilder(Bounds.with(0, "came " + b[0] + " bride " + b[1]));
            for (int weekday = 0; weekday < 7; weekday++) {
                text.append(Bounds.home(weekday, 0, 180)).append(Bounds.know(0, weekday + 1));
            }
            CardBowl x = Check.with(text.toString());
            int last = b[0] + b[1];
            for (int day : new int[] {b[0], last, last + 1}) {
                Bounds.go(x, day);
                int host = 1 + day % 7;
                String when = "came " + b[0] + " bride " + b[1] + " DAY " + day;
                int due = b[1] > 0 && day <= last ? 3 : 0;
                B.due(when + ", a call", x.bars(0, host, 2), due);
                B.due(when + ", a dinner", x.bars(0, host, 3), due);
                B.due(when + ", a card", x.bars(0, host, 1), 0);
                B.due(when + ", sent", x.bars(0, host, 0), 0);
            }
        }
        CardBowl y = Check.with(Bounds.with(0, "bride 99") + Bounds.with(0, "") + Bounds.know(0, 1));
        B.due("on one who waits others may call", y.bars(1, 0, 2), 0);
        B.due("who waits may not", y.bars(0, 1, 2), 3);
    }

    private static void termIIILeast() {
        B.term("III", "Of several that bar it the least is told");
        CardBowl x = Check.with(Bounds.with(0, "bride 99") + Bounds.with(1, "") + Bounds.with(0, "") + Bounds.with(1, "")
            + Bounds.with(0, "") + Bounds.know(0, 1, 0, 2));
        B.due("not at home, and waits", x.bars(0, 1, 2), 2);
        B.due("waits", x.bars(0, 2, 2), 3);
        B.due("not known, not at home, and waits", x.bars(0, 3, 2), 1);
        B.due("not known, and waits", x.bars(0, 4, 2), 1);
        B.due("not known, not at home", x.bars(2, 3, 3), 1);
        B.due("not at home", x.bars(2, 0, 3), 0);
        x.days(1);
        B.due("at home on a mon, waits", x.bars(0, 1, 3), 3);
        B.due("not at home on a mon", x.bars(2, 0, 3), 2);
    }

    private static void termIVSlighted() {
        B.term("IV", "whom most open DEBTS are owed that were due ahead of today");
        CardBowl x = Check.with(Bounds.ranked(1) + Bounds.ranked(5) + Bounds.ranked(9) + Bounds.know(0, 1, 0, 2, 1, 2)
            + "card owes card within 2;sent owes sent within 3;");
        x.does(0, 1, 1);
        x.days(2);
        B.due("due today", x.first(), -1);
        x.days(1);
        B.due("due yesterday", x.first(), 0);
        x.does(1, 0, 1);
        B.due("paid", x.first(), -1);
        B.term("IV", "of like ones the greater rank");
        x.does(0, 2, 0);
        x.days(4);
        B.due("one each, of 0 and 1: rank 5 ahead of rank 1", x.first(), 1);
        x.does(0, 1, 0);
        x.days(4);
        B.due("two to 0, one to 1", x.first(), 0);
        x.does(2, 1, 0);
        x.days(4);
        B.due("two to 0, one to 1, one to 2", x.first(), 0);
        x.does(1, 0, 0);
        B.due("one each: rank 9", x.first(), 2);
        CardBowl y = Check.with(Bounds.ranked(3) + Bounds.ranked(3) + Bounds.ranked(2) + Bounds.know(0, 1, 0, 2, 1, 2)
            + "card owes card within 0;");
        y.does(1, 2, 1);
        y.does(2, 1, 1);
        y.days(1);
        B.due("the one whose debt is open", y.first(), 2);
        y.does(0, 2, 1);
        y.days(1);
        B.due("rank 3 ahead of rank 2", y.first(), 0);
    }

    private static void promise7Bars() {
        B.promise(7, "-2: there are none such, or one and the same");
        CardBowl x = Check.with(THREE);
        for (int paying = 0; paying < 4; paying++) {
            B.due("bars(0, 2, " + paying + ")", x.bars(0, 2, paying), 0);
            B.due("bars(2, 0, " + paying + ")", x.bars(2, 0, paying), 0);
            B.due("bars(1, 2, " + paying + ")", x.bars(1, 2, paying), 1);
            B.due("one and the same", x.bars(2, 2, paying), -2);
            B.due("bars(0, 3, " + paying + ")", x.bars(0, 3, paying), -2);
            B.due("bars(3, 0, " + paying + ")", x.bars(3, 0, paying), -2);
        }
        B.due("paying 4", x.bars(0, 2, 4), -2);
        for (int none : Bounds.FAR_OFF) {
            B.due("bars(" + none + ", 0, 0)", x.bars(none, 0, 0), -2);
            B.due("bars(0, " + none + ", 0)", x.bars(0, none, 0), -2);
            B.due("bars(0, 2, " + none + ")", x.bars(0, 2, none), -2);
        }
        B.due("no houses at all", new CardBowl().bars(0, 1, 0), -2);
        CardBowl full = Check.with(Bounds.houses(16) + Bounds.know(14, 15));
        B.due("the last of sixteen", full.bars(14, 15, 0), 0);
        B.due("one behind it", full.bars(14, 16, 0), -2);
        B.promise(7, "0 it may, 1 they are not known to each other, 2 b is not at home, 3 a waits");
        CardBowl y = Check.with(Bounds.with(0, "bride 9") + Bounds.with(0, "") + Bounds.with(1, "") + Bounds.know(0, 1, 1, 2));
        B.due("it may", y.bars(1, 0, 2), 0);
        B.due("not known", y.bars(0, 2, 2), 1);
        B.due("not at home", y.bars(1, 2, 2), 2);
        B.due("waits", y.bars(0, 1, 2), 3);
    }

    private static void promise8Does() {
        B.promise(8, "HOUSE a does it: how many DEBTS it paid. -2 likewise");
        CardBowl x = Check.with(THREE + Bounds.LIKE_FOR_LIKE);
        B.due("none", x.does(0, 1, 3), 0);
        B.due("one", x.does(1, 0, 3), 1);
        B.due("one", x.does(0, 1, 3), 1);
        for (int paying = 0; paying < 3; paying++) {
            x.does(0, 1, paying);
        }
        B.due("three, without the dinner", x.does(1, 0, 2), 3);
        B.due("the dinner", x.does(1, 0, 3), 1);
        int done = x.count(5);
        B.due("one and the same", x.does(0, 0, 0), -2);
        B.due("does(0, 3, 0)", x.does(0, 3, 0), -2);
        B.due("does(3, 0, 0)", x.does(3, 0, 0), -2);
        B.due("does(0, 1, 4)", x.does(0, 1, 4), -2);
        for (int none : Bounds.FAR_OFF) {
            B.due("does(" + none + ", 0, 0)", x.does(none, 0, 0), -2);
            B.due("does(0, " + none + ", 0)", x.does(0, none, 0), -2);
            B.due("does(0, 1, " + none + ")", x.does(0, 1, none), -2);
        }
        B.due("nothing was DONE by these", x.count(5), done);
    }

    private static void promise8MayNot() {
        B.promise(8, "-5, and nothing happens: it may not");
        CardBowl x = Check.with(Bounds.with(0, "") + Bounds.with(0, "bride 7") + Bounds.with(1, "") + Bounds.with(0, "")
            + Bounds.know(0, 1, 0, 2) + Bounds.LIKE_FOR_LIKE);
        x.does(2, 0, 0);
        B.due("not at home", x.does(0, 2, 2), -5);
        B.due("waits", x.does(1, 0, 3), -5);
        B.due("not known", x.does(0, 3, 0), -5);
        B.counts("behind these", x, 4, 4, 0, 1, 0, 1, 0, 0, 3, 0, 0);
        B.due("known(0, 3)", x.known(0, 3), 0);
        B.due("debts(0)", x.debts(0), 1);
        B.due("what it may", x.does(0, 2, 0), 1);
        B.counts("behind that", x, 4, 4, 0, 1, 0, 2, 1, 0, 3, 0, 0);
    }

    private static void promise8SixHundred() {
        B.promise(8, "-3, likewise: 600 PAYINGS and meetings are DONE");
        CardBowl x = Check.with(THREE + Bounds.LIKE_FOR_LIKE);
        x.does(0, 1, 1);
        Bounds.meetTimes(x, 598);
        B.due("599 are DONE", x.count(5), 599);
        B.due("the 600th", x.does(1, 0, 1), 1);
        B.due("600 are DONE", x.count(5), 600);
        for (int paying = 0; paying < 4; paying++) {
            B.due("one more", x.does(0, 1, paying), -3);
        }
        B.counts("behind that", x, 3, 4, 0, 1, 0, 600, 1, 0, 3, 0, 1);
        B.due("the debt stays", x.debts(0), 1);
        B.due("-2 ahead of -3", x.does(0, 0, 0), -2);
        Check.town(x, THREE);
        B.due("another town: none is DONE", x.does(0, 1, 0), 0);
        B.due("count(5)", x.count(5), 1);
    }

    private static void promise9Meet() {
        B.promise(9, "They meet by chance (there yet or not): 1 if they did not know each other ahead, else 0");
        CardBowl x = Check.with(THREE + Bounds.with(0, "came 399") + Bounds.with(0, "came 399"));
        B.due("strangers", x.meet(1, 2), 1);
        B.due("again", x.meet(1, 2), 0);
        B.due("the other way", x.meet(2, 1), 0);
        B.due("told", x.meet(0, 1), 0);
        B.due("one is not there yet", x.meet(0, 3), 1);
        B.due("neither is", x.meet(4, 3), 1);
        B.due("all were DONE", x.count(5), 6);
        B.promise(9, "-2: there are none such, or one and the same");
        B.due("one and the same", x.meet(4, 4), -2);
        B.due("meet(0, 5)", x.meet(0, 5), -2);
        B.due("meet(5, 0)", x.meet(5, 0), -2);
        for (int none : Bounds.FAR_OFF) {
            B.due("meet(" + none + ", 0)", x.meet(none, 0), -2);
            B.due("meet(0, " + none + ")", x.meet(0, none), -2);
        }
        B.due("no more were DONE", x.count(5), 6);
    }

    private static void promise9SixHundred() {
        B.promise(9, "-3 as does()");
        CardBowl x = Check.with(THREE);
        Bounds.meetTimes(x, 599);
        B.due("the 600th", x.meet(1, 0), 0);
        B.due("one more, of strangers", x.meet(1, 2), -3);
        B.due("nothing happens", x.known(1, 2), 0);
        B.due("count(5)", x.count(5), 600);
        B.due("-2 ahead of -3", x.meet(1, 1), -2);
        B.due("-2 ahead of -3", x.meet(1, 3), -2);
        CardBowl y = Check.with(THREE);
        Bounds.meetTimes(y, 599);
        B.due("the 600th, of strangers", y.meet(1, 2), 1);
        B.due("known", y.known(1, 2), 1);
    }

    private static void promise10Done() {
        B.promise(10, "how many were DONE. -2: there is no such SLOT; -6: it has nothing");
        CardBowl x = Check.with(THREE);
        for (int slot = 0; slot < 4; slot++) {
            B.due("nothing in " + slot, x.done(slot), -6);
            Check.row(x, slot, 0, 1, 0);
            B.due("a row in " + slot, x.done(slot), 1);
            x.row(slot, 0, 0);
            B.due("a row of none in " + slot, x.done(slot), 0);
        }
        B.due("done(4)", x.done(4), -2);
        for (int none : Bounds.FAR_OFF) {
            B.due("done(" + none + ")", x.done(none), -2);
        }
        B.due("count(5)", x.count(5), 4);
        long[] most = new long[60];
        for (int i = 0; i < 20; i++) {
            most[3 * i + 1] = 1 + i % 2;
        }
        Check.row(x, 0, most);
        B.due("sixty numbers", x.done(0), 20);
        B.due("count(5)", x.count(5), 24);
    }

    private static void promise10LeftOver() {
        B.promise(10, "what is left over is not looked at");
        for (int n = 0; n <= 7; n++) {
            CardBowl x = Check.with(THREE);
            long[] numbers = new long[n];
            for (int i = 0; i < n; i++) {
                numbers[i] = i % 3 == 1 ? 1 : 0;
            }
            Check.row(x, 2, numbers);
            B.due("a row of " + n, x.done(2), n / 3);
            B.due("count(5)", x.count(5), n / 3);
        }
    }

    private static void promise10Refused() {
        B.promise(10, "(HOUSE, HOUSE, PAYING; 4: they meet");
        long[][] rows = {{0, 2, 0, 1}, {0, 2, 1, 1}, {0, 2, 2, 1}, {0, 2, 3, 1}, {0, 2, 4, 1}, {1, 2, 4, 1}, {0, 2, 5, 0},
            {0, 2, -1, 0}, {1, 2, 0, 0}, {1, 2, 3, 0}, {0, 3, 0, 0}, {0, 3, 4, 0}, {3, 0, 4, 0}, {0, -1, 4, 0}, {-1, 0, 4, 0},
            {2, 2, 4, 0}, {2, 2, 0, 0}, {16, 0, 4, 0}, {0, 16, 0, 0}, {1L << 32, 2, 4, 0}, {0, (1L << 32) + 2, 4, 0},
            {0, 2, (1L << 32) + 4, 0}, {0, 2, 1L << 32, 0}, {0, 2, Long.MIN_VALUE, 0}, {0, Long.MAX_VALUE, 4, 0}, {-1L << 32, 2, 4, 0}};
        for (long[] r : rows) {
            CardBowl x = Check.with(THREE);
            Check.row(x, 0, r[0], r[1], r[2]);
            B.due("done of " + r[0] + " " + r[1] + " " + r[2], x.done(0), r[3]);
            B.due("count(5)", x.count(5), r[3]);
        }
        B.promise(10, "those that are refused left out");
        CardBowl y = Check.with(THREE);
        Check.row(y, 1, 0, 0, 0, 1, 2, 0, 1, 2, 4, 1, 2, 0, 0, 3, 0, 2, 1, 3);
        B.due("none, barred, meet, sent, none, dinner", y.done(1), 3);
        B.due("one behind the other", y.known(1, 2), 1);
        B.due("count(5)", y.count(5), 3);
    }

    private static void promise10SixHundred() {
        B.promise(10, "those that are refused left out: how many were DONE");
        CardBowl x = Check.with(THREE);
        Bounds.meetTimes(x, 595);
        Check.row(x, 0, 0, 1, 0, 0, 1, 4, 0, 1, 1, 0, 1, 2, 0, 1, 3, 1, 2, 4, 0, 1, 0);
        B.due("five of seven", x.done(0), 5);
        B.due("count(5)", x.count(5), 600);
        B.due("the sixth was refused", x.known(1, 2), 0);
        B.due("none of seven", x.done(0), 0);
    }

    private static void promise11Known() {
        B.promise(11, "1 if two HOUSES know each other now, else 0. -2: there are none such, or one and the same");
        CardBowl x = Check.with(THREE);
        B.due("told", x.known(0, 2), 1);
        B.due("the other way", x.known(2, 0), 1);
        B.due("not told", x.known(1, 2), 0);
        B.due("one and the same", x.known(2, 2), -2);
        B.due("known(0, 3)", x.known(0, 3), -2);
        B.due("known(3, 0)", x.known(3, 0), -2);
        for (int none : Bounds.FAR_OFF) {
            B.due("known(" + none + ", 0)", x.known(none, 0), -2);
            B.due("known(0, " + none + ")", x.known(0, none), -2);
        }
        CardBowl full = Check.with(Bounds.houses(16) + Bounds.know(15, 0));
        B.due("known(0, 15)", full.known(0, 15), 1);
        B.due("known(15, 1)", full.known(15, 1), 0);
        B.due("known(0, 16)", full.known(0, 16), -2);
    }

    private static void promise12Debts() {
        B.promise(12, "DEBTS that HOUSE a has (open): how many. -2: there is none such");
        CardBowl x = Check.with(THREE + Bounds.LIKE_FOR_LIKE);
        B.due("none", x.debts(2), 0);
        for (int kind = 0; kind < 4; kind++) {
            x.does(0, 2, kind);
            B.due("as many as KINDS", x.debts(2), kind + 1);
        }
        x.does(2, 0, 3);
        B.due("all paid", x.debts(2), 0);
        B.due("debts(3)", x.debts(3), -2);
        for (int none : Bounds.FAR_OFF) {
            B.due("debts(" + none + ")", x.debts(none), -2);
        }
        CardBowl full = Check.with(Bounds.houses(16) + knowAll(16) + Bounds.LIKE_FOR_LIKE);
        for (int a = 1; a < 16; a++) {
            for (int kind = 0; kind < 4; kind++) {
                full.does(a, 0, kind);
            }
        }
        B.due("as many as there can be", full.debts(0), 60);
        B.due("the last of them, to whom", full.debt(0, 59, 0), 15);
        B.due("the last of them, KIND", full.debt(0, 59, 1), 3);
        B.due("none behind it", full.debt(0, 60, 0), -1);
        B.due("debts(15)", full.debts(15), 0);
        B.due("debts(16)", full.debts(16), -2);
    }

    private static String knowAll(int houses) {
        StringBuilder b = new StringBuilder();
        for (int i = 1; i < houses; i++) {
            b.append(Bounds.know(0, i));
        }
        return b.toString();
    }

    private static void promise13Debt() {
        B.promise(13, "Of DEBT i of HOUSE a (open ones, as they came) what 0: to whom, 1: its KIND (0 .. 3 as PAYINGS), 2: the DAY by which it is due, 3: the DAY on which it came");
        CardBowl x = Check.with(THREE + Bounds.know(1, 2) + "sent owes dinner within 4;card owes sent within 1;");
        x.days(2);
        x.does(2, 1, 0);
        x.days(3);
        x.does(0, 1, 1);
        int[][] want = {{2, 3, 6, 2}, {0, 0, 6, 5}};
        for (int i = 0; i < 2; i++) {
            for (int what = 0; what < 4; what++) {
                B.due("debt(1, " + i + ", " + what + ")", x.debt(1, i, what), want[i][what]);
            }
        }
        B.promise(13, "NONE for others");
        B.due("what 4", x.debt(1, 0, 4), -1);
        B.due("i 2", x.debt(1, 2, 0), -1);
        B.due("a house without", x.debt(0, 0, 0), -1);
        B.due("no such house", x.debt(3, 0, 0), -1);
        for (int none : Bounds.FAR_OFF) {
            B.due("debt(" + none + ", 0, 0)", x.debt(none, 0, 0), -1);
            B.due("debt(1, " + none + ", 0)", x.debt(1, none, 0), -1);
            B.due("debt(1, 0, " + none + ")", x.debt(1, 0, none), -1);
        }
        x.days(2);
        B.due("a dinner pays the first", x.does(1, 2, 3), 1);
        B.due("the first is paid: the other is the first", x.debt(1, 0, 3), 5);
        B.due("and the last", x.debt(1, 1, 3), -1);
    }

    private static void promise14Slights() {
        B.promise(14, "DEBTS to HOUSE b that others have, due ahead of today. -2: there is none such");
        CardBowl x = Check.with(THREE + "card owes card within 0;sent owes sent within 1;");
        x.does(0, 1, 1);
        x.does(0, 1, 0);
        x.does(0, 2, 1);
        B.due("due today", x.slights(0), 0);
        B.due("count(4)", x.count(4), 0);
        x.days(1);
        B.due("two due yesterday, one today", x.slights(0), 2);
        B.due("count(4)", x.count(4), 2);
        x.days(1);
        B.due("all", x.slights(0), 3);
        B.due("to another one", x.slights(1), 0);
        x.does(1, 0, 0);
        B.due("one is paid", x.slights(0), 2);
        B.due("slights(2)", x.slights(2), 0);
        B.due("slights(3)", x.slights(3), -2);
        for (int none : Bounds.FAR_OFF) {
            B.due("slights(" + none + ")", x.slights(none), -2);
        }
        CardBowl y = Check.with(THREE + "card owes card within 99;");
        Bounds.go(y, 398);
        y.does(0, 1, 1);
        y.days(1);
        B.due("due on DAY 399 at the latest: never ahead of it", y.slights(0), 0);
    }

    private static void promise15First() {
        B.promise(15, "The HOUSE that is most slighted (IV), the first of several; NONE: none is");
        B.due("no houses", new CardBowl().first(), -1);
        CardBowl x = Check.with(Bounds.houses(4) + Bounds.know(0, 1, 0, 2, 0, 3, 1, 3) + "card owes card within 0;");
        B.due("no debts", x.first(), -1);
        x.does(3, 0, 1);
        x.does(2, 0, 1);
        B.due("due today", x.first(), -1);
        x.days(1);
        B.due("of two alike the first", x.first(), 2);
        x.does(1, 0, 1);
        B.due("one that is due today counts not", x.first(), 2);
        x.days(1);
        B.due("of three alike the first", x.first(), 1);
        x.does(3, 1, 1);
        x.days(1);
        B.due("two of 3 ahead of one", x.first(), 3);
        x.does(0, 3, 1);
        x.does(1, 3, 1);
        x.does(0, 2, 1);
        x.does(0, 1, 1);
        B.due("all paid", x.first(), -1);
        CardBowl full = Check.with(Bounds.houses(16) + Bounds.know(14, 15) + "card owes card within 0;");
        full.does(15, 14, 1);
        full.days(1);
        B.due("the last of sixteen", full.first(), 15);
    }

    private static void promise16Owes() {
        B.promise(16, "its KIND; NONE: nothing (an open one of like KIND, too)");
        CardBowl x = Check.with(THREE + "card owes sent within 1;sent owes dinner within 1;call owes sent within 1;");
        B.due("sent", x.owes(0, 1, 1), 0);
        B.due("dinner", x.owes(0, 1, 0), 3);
        B.due("no LINE", x.owes(0, 1, 3), -1);
        x.does(0, 1, 1);
        B.due("an open one of like KIND", x.owes(0, 1, 1), -1);
        B.due("of like KIND by another PAYING", x.owes(0, 1, 2), -1);
        B.due("another KIND", x.owes(0, 1, 0), 3);
        B.due("to another one", x.owes(0, 2, 1), 0);
        B.due("the other way", x.owes(1, 0, 1), 0);
        x.does(1, 0, 0);
        B.due("paid", x.owes(0, 1, 1), 0);
        B.due("strangers, too", x.owes(1, 2, 1), 0);
        B.promise(16, "-2: there are none such, or one and the same");
        B.due("one and the same", x.owes(0, 0, 1), -2);
        B.due("owes(0, 3, 1)", x.owes(0, 3, 1), -2);
        B.due("owes(3, 0, 1)", x.owes(3, 0, 1), -2);
        B.due("owes(0, 1, 4)", x.owes(0, 1, 4), -2);
        for (int none : Bounds.FAR_OFF) {
            B.due("owes(" + none + ", 0, 1)", x.owes(none, 0, 1), -2);
            B.due("owes(0, " + none + ", 1)", x.owes(0, none, 1), -2);
            B.due("owes(0, 1, " + none + ")", x.owes(0, 1, none), -2);
        }
        B.due("nothing happened by it", x.count(5), 2);
    }
}
