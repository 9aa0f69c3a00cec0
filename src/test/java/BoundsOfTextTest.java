/** Term I and promises 1 to 6, at their bounds: the last that is within, the first that is not. */
public final class BoundsOfTextTest {
    private static final Bounds B = new Bounds("BoundsOfTextTest");
    private static final String OWES = "card owes card within 1;";

    public static void main(String[] args) {
        termIEmptyTown();
        termIHouses();
        termIPlaces();
        termIRanks();
        termIWeekdays();
        termIMinutes();
        termICame();
        termIBride();
        termIKnow();
        termINew();
        termIIntroduce();
        termIPayings();
        termIWithin();
        termICode();
        termITests();
        termISums();
        termINumbersOfTests();
        termIBlanks();
        termIWords();
        termIOtherWords();
        termIDigits();
        termISigns();
        termILongest();
        termIFirstFault();
        termIEnd();
        termILeastFault();
        termIFaultsOfOneTooMany();
        promise1NewObject();
        promise2Feed();
        promise2Bytes();
        promise3End();
        promise4Town();
        promise4Fault();
        promise5Fault();
        promise5AheadOfAny();
        promise6Days();
        B.finish("Term I", "promise 1", "promise 2", "promise 3", "promise 4", "promise 5", "promise 6");
    }

    private static void termIEmptyTown() {
        B.term("I", "TOWN: {LINE ;}");
        B.good("", 0);
        B.good(" ", 0);
        B.good("new 1;", 0);
        B.good("new 1;new 1;", 0);
        B.faultyAt(1, "|;");
        B.faultyAt(1, "new 1;|;");
        B.faultyAt(1, "new 1|");
        B.faultyAt(1, "new 1 |new 1;");
    }

    private static void termIHouses() {
        B.term("I", "HOUSES, 16 at most, are numbered as they stand");
        StringBuilder text = new StringBuilder();
        for (int i = 0; i < 16; i++) {
            text.append(Bounds.at(i, 40 - i, 0, 0, 9));
        }
        CardBowl x = B.good(text.toString(), 16);
        B.due("x of the first", x.house(0, 0), 0);
        B.due("x of the last", x.house(15, 0), 15);
        B.due("y of the last", x.house(15, 1), 25);
        B.due("none behind it", x.house(16, 0), Bounds.NOTHING);
        B.faultyAt(3, text + "|" + Bounds.at(1, 1, 0, 0, 9));
        B.good(Bounds.houses(15), 15);
    }

    private static void termIPlaces() {
        B.term("I", "X, Y: 0 .. 99");
        CardBowl least = B.good("house at 0 0 rank 1 home sun 0 9;", 1);
        B.due("x", least.house(0, 0), 0);
        B.due("y", least.house(0, 1), 0);
        CardBowl x = B.good("house at 99 0 rank 1 home sun 0 9;", 1);
        B.due("x", x.house(0, 0), 99);
        CardBowl y = B.good("house at 0 99 rank 1 home sun 0 9;", 1);
        B.due("y", y.house(0, 1), 99);
        B.faultyAt(2, "house at |100 0 rank 1 home sun 0 9;");
        B.faultyAt(2, "house at 0 |100 rank 1 home sun 0 9;");
        B.faultyAt(1, "house at |-1 0 rank 1 home sun 0 9;");
        B.faultyAt(1, "house at 0 |rank 1 home sun 0 9;");
        B.faultyAt(1, "house at 0 0 |0 rank 1 home sun 0 9;");
    }

    private static void termIRanks() {
        B.term("I", "R: 0 .. 9");
        B.due("rank 0", B.good(Bounds.ranked(0), 1).house(0, 2), 0);
        B.due("rank 9", B.good(Bounds.ranked(9), 1).house(0, 2), 9);
        B.faultyAt(2, "house at 0 0 rank |10 home sun 0 9;");
        B.faultyAt(1, "house at 0 0 rank |home sun 0 9;");
    }

    private static void termIWeekdays() {
        B.term("I", "DAY: sun | mon | tue | wed | thu | fri | sat (0 .. 6)");
        for (int day = 0; day < 7; day++) {
            B.due(Bounds.WEEKDAYS[day], B.good(Bounds.home(day, 0, 9), 1).house(0, 3), day);
        }
        B.faultyAt(1, "house at 0 0 rank 1 home |sunday 0 9;");
        B.faultyAt(1, "house at 0 0 rank 1 home |su 0 9;");
        B.faultyAt(1, "house at 0 0 rank 1 home |0 0 9;");
    }

    private static void termIMinutes() {
        B.term("I", "M: 0 .. 180 (minutes behind three; from, to, not below it)");
        int[][] within = {{0, 0}, {0, 180}, {180, 180}, {90, 90}, {90, 91}};
        for (int[] m : within) {
            CardBowl x = B.good(Bounds.home(0, m[0], m[1]), 1);
            B.due("from", x.house(0, 4), m[0]);
            B.due("to", x.house(0, 5), m[1]);
        }
        B.faultyAt(2, "house at 0 0 rank 1 home sun |181 180;");
        B.faultyAt(2, "house at 0 0 rank 1 home sun |181 181;");
        B.faultyAt(2, "house at 0 0 rank 1 home sun 0 |181;");
        B.faultyAt(2, "house at 0 0 rank 1 home sun 90 |89;");
        B.faultyAt(2, "house at 0 0 rank 1 home sun 1 |0;");
        B.faultyAt(2, "house at 0 0 rank 1 home sun 180 |179;");
        B.faultyAt(1, "house at 0 0 rank 1 home sun 0|;");
        B.faultyAt(1, "house at 0 0 rank 1 home sun 0 9 |9;");
    }

    private static void termICame() {
        B.term("I", "came 0 .. 399 (without: 0)");
        B.due("came 0", B.good(Bounds.with(0, "came 0"), 1).house(0, 6), 0);
        B.due("came 399", B.good(Bounds.with(0, "came 399"), 1).house(0, 6), 399);
        B.due("without", B.good(Bounds.with(0, ""), 1).house(0, 6), 0);
        B.due("without, with a bride", B.good(Bounds.with(0, "bride 5"), 1).house(0, 6), 0);
        CardBowl x = B.good(Bounds.with(0, "came 5") + Bounds.with(0, ""), 2);
        B.due("without, behind one with it", x.house(1, 6), 0);
        B.faultyAt(2, "house at 0 0 rank 1 home sun 0 9 came |400;");
        B.faultyAt(1, "house at 0 0 rank 1 home sun 0 9 came|;");
        B.faultyAt(1, "house at 0 0 rank 1 home sun 0 9 came 0 |came 0;");
    }

    private static void termIBride() {
        B.term("I", "bride 0 .. 99 (DAYS behind that on which it came for which it waits)");
        // DAY 99 is a mon, DAY 100 a tue
        CardBowl x = B.good(Bounds.with(0, "bride 99") + Bounds.with(1, "") + Bounds.with(2, "") + Bounds.know(0, 1, 0, 2), 3);
        Bounds.go(x, 99);
        B.due("the last day of a bride of 99", x.bars(0, 1, 2), 3);
        x.days(1);
        B.due("the day behind it", x.bars(0, 2, 2), 0);
        B.good(Bounds.with(0, "bride 0"), 1);
        B.good(Bounds.with(0, "came 399 bride 99"), 1);
        B.faultyAt(2, "house at 0 0 rank 1 home sun 0 9 bride |100;");
        B.faultyAt(2, "house at 0 0 rank 1 home sun 0 9 came 1 bride |100;");
        B.faultyAt(1, "house at 0 0 rank 1 home sun 0 9 bride 1 |came 1;");
        CardBowl y = B.good(Bounds.with(0, "bride 9") + Bounds.with(0, "") + Bounds.know(0, 1), 2);
        y.days(7);
        B.due("a house without, behind one with it", y.bars(1, 0, 2), 0);
    }

    private static void termIKnow() {
        B.term("I", "H: a HOUSE told ahead, two unlike ones");
        B.faultyAt(2, "know |0 1;");
        B.faultyAt(2, Bounds.houses(1) + "know 0 |1;");
        B.faultyAt(2, Bounds.houses(1) + "know |1 0;");
        B.faultyAt(2, Bounds.houses(1) + "know 0 |0;");
        B.due("the last told", B.good(Bounds.houses(2) + "know 0 1;", 2).known(0, 1), 1);
        B.due("the other way", B.good(Bounds.houses(2) + "know 1 0;", 2).known(0, 1), 1);
        B.faultyAt(2, Bounds.houses(2) + "know 1 |1;");
        B.faultyAt(2, Bounds.houses(2) + "know 1 |2;");
        B.faultyAt(2, Bounds.houses(2) + "know |2 1;");
        B.faultyAt(2, Bounds.houses(2) + "know 0 |2;" + Bounds.houses(1));
        B.due("of sixteen", B.good(Bounds.houses(16) + "know 15 14;", 16).known(14, 15), 1);
        B.faultyAt(2, Bounds.houses(16) + "know 15 |16;");
        B.faultyAt(2, Bounds.houses(16) + "know |16 15;");
        B.faultyAt(1, Bounds.houses(3) + "know 0 1 |2;");
        B.due("told twice", B.good(Bounds.houses(2) + "know 1 0;know 0 1;", 2).known(0, 1), 1);
    }

    private static void termINew() {
        B.term("I", "new 0 .. 99 (without: 0)");
        B.due("new 0", B.good("new 0;", 0).count(9), 0);
        B.due("new 99", B.good("new 99;", 0).count(9), 99);
        B.due("without", B.good("", 0).count(9), 0);
        B.faultyAt(2, "new |100;");
        B.term("I", "of several the last one counts");
        B.due("new", B.good("new 99;new 3;new 7;", 0).count(9), 7);
        B.due("introduce", B.good("introduce 9;introduce 1;introduce 2;", 0).count(8), 2);
        B.faultyAt(2, "new |100;new 1;");
        CardBowl x = B.good("new 5;introduce 5;", 0);
        Check.town(x, "");
        B.due("none of another town: new", x.count(9), 0);
        B.due("none of another town: introduce", x.count(8), 3);
    }

    private static void termIIntroduce() {
        B.term("I", "introduce 1 .. 9 (without: 3)");
        B.due("introduce 1", B.good("introduce 1;", 0).count(8), 1);
        B.due("introduce 9", B.good("introduce 9;", 0).count(8), 9);
        B.due("without", B.good("new 5;", 0).count(8), 3);
        B.faultyAt(2, "introduce |0;");
        B.faultyAt(2, "introduce |10;");
        B.faultyAt(1, "introduce|;");
    }

    private static void termIPayings() {
        B.term("I", "PAYING: sent | card | call | dinner (0 .. 3)");
        for (int paying = 0; paying < 4; paying++) {
            for (int kind = 0; kind < 4; kind++) {
                CardBowl x = B.good(Bounds.houses(2) + Bounds.PAYINGS[paying] + " owes " + Bounds.PAYINGS[kind] + " within 1;", 2);
                for (int other = 0; other < 4; other++) {
                    B.due("owes of " + other, x.owes(0, 1, other), other == paying ? kind : -1);
                }
            }
        }
        B.faultyAt(1, "|meet owes card within 1;");
        B.faultyAt(1, "card owes |meet within 1;");
        B.faultyAt(1, "card owes |1 within 1;");
        B.faultyAt(1, "|owes card within 1;");
    }

    private static void termIWithin() {
        B.term("I", "within 0 .. 99");
        int[] within = {0, 1, 98, 99};
        for (int days : within) {
            CardBowl x = B.good(Bounds.houses(2) + Bounds.know(0, 1) + "card owes card within " + days + ";", 2);
            x.does(0, 1, 1);
            B.due("due", x.debt(1, 0, 2), days);
        }
        B.faultyAt(2, "card owes card within |100;");
        B.faultyAt(1, "card owes card within|;");
    }

    private static void termICode() {
        B.term("I", "CODE: its LINES with owes, 24 at most");
        B.due("without", B.good("new 1;", 0).count(1), 0);
        B.due("23", B.good(OWES.repeat(23), 0).count(1), 23);
        CardBowl x = B.good(Bounds.houses(2) + OWES.repeat(23) + "dinner owes sent within 1;" + Bounds.know(0, 1) + "new 1;", 2);
        B.due("24, and others", x.count(1), 24);
        B.due("the last of them", x.owes(0, 1, 3), 0);
        B.faultyAt(3, OWES.repeat(24) + "|" + OWES);
        B.faultyAt(3, OWES.repeat(24) + "new 1;|" + OWES);
    }

    private static void termITests() {
        B.term("I", "[if TEST {and TEST}]");
        String line = "card owes card within 1";
        B.good(line + ";", 0);
        B.good(line + " if 1 same 1;", 0);
        B.good(line + " if 1 same 1 and 1 same 1;", 0);
        B.good(line + " if 1 same 1" + " and 1 same 1".repeat(60) + ";", 0);
        B.faultyAt(1, line + " if|;");
        B.faultyAt(1, line + " |and 1 same 1;");
        B.faultyAt(1, line + " if 1 same 1 and|;");
        B.faultyAt(1, line + " if 1 same 1 |if 1 same 1;");
        B.faultyAt(1, line + " if 1 same 1 and 1|;");
        B.faultyAt(1, line + " if 1 |and 1 same 1;");
        // as many as a tape of 1,400 bytes holds behind two houses: the last one counts as the first does
        String most = "house at0 0rank1home sun0 9;".repeat(2) + line + "if1less2" + "and1less2".repeat(144);
        B.due("all hold", B.good(most + "and1less2;", 2).owes(0, 1, 1), 1);
        B.due("the last does not", B.good(most + "and2less1;", 2).owes(0, 1, 1), -1);
        CardBowl again = new CardBowl();
        for (int i = 0; i < 2; i++) {
            B.due("a town in place of another", Check.town(again, most + "and1less2;"), 2);
            B.due("all hold, again", again.owes(0, 1, 1), 1);
            B.due("a town in place of another", Check.town(again, most + "and2less1;"), 2);
            B.due("the last does not, again", again.owes(0, 1, 1), -1);
        }
        B.due("the bytes", most.length() + 10 <= 1400 && most.length() + 19 > 1400 ? 1 : 0, 1);
    }

    private static void termISums() {
        B.term("I", "SUM: TERM {plus TERM | minus TERM}");
        String line = "card owes card within 1 if ";
        B.good(line + "1 same 1;", 0);
        B.good(line + "1 plus 1 same 1 minus 1;", 0);
        B.good(line + "1 plus 1 minus 1 plus 1 same 1;", 0);
        B.faultyAt(1, line + "|plus 1 same 1;");
        B.faultyAt(1, line + "1 plus |same 1;");
        B.faultyAt(1, line + "1 plus |minus 1 same 1;");
        B.faultyAt(1, line + "1 same 1 minus|;");
        B.term("I", "TEST: SUM SIGN SUM; SIGN: more | less | same");
        B.faultyAt(1, line + "1|;");
        B.faultyAt(1, line + "1 same|;");
        B.faultyAt(1, line + "|same 1;");
        B.faultyAt(1, line + "1 same 1 |same 1;");
        B.faultyAt(1, line + "1 |equal 1;");
        B.term("I", "TERM: PART {times PART}");
        B.good(line + "1 times 1 times 1 same 1 times 1;", 0);
        B.faultyAt(1, line + "|times 1 same 1;");
        B.faultyAt(1, line + "1 times |same 1;");
        B.faultyAt(1, line + "1 times |plus 1 same 1;");
    }

    private static void termINumbersOfTests() {
        B.term("I", "PART: N (0 .. 999) | mine | theirs | debts | day | known");
        String line = "card owes card within 1 if ";
        B.due("0", B.good(Bounds.houses(2) + line + "0 less 1;", 2).owes(0, 1, 1), 1);
        B.due("999", B.good(Bounds.houses(2) + line + "999 minus 998 same 1;", 2).owes(0, 1, 1), 1);
        B.faultyAt(2, line + "|1000 same 1;");
        B.faultyAt(2, line + "1 same |1000;");
        B.faultyAt(2, line + "1 times |1000 same 1;");
        String[] parts = {"mine", "theirs", "debts", "day", "known"};
        for (String part : parts) {
            B.good(line + part + " same " + part + ";", 0);
        }
        B.faultyAt(1, line + "|ours same 1;");
        B.faultyAt(1, line + "|rank same 1;");
    }

    private static void termIBlanks() {
        B.term("I", "blanks (32, 10) aside");
        B.due("32", B.good(" new  7 ; ", 0).count(9), 7);
        B.due("10", B.good("\nnew\n\n7\n;\n", 0).count(9), 7);
        char[] others = {0, 9, 11, 12, 13, 31, 33, 160};
        for (char other : others) {
            B.faultyAt(1, "new|" + other + "7;");
            B.faultyAt(1, "new 7;|" + other);
        }
        B.due("no blank at all", B.good("new7;introduce5;", 0).count(8), 5);
    }

    private static void termIWords() {
        B.term("I", "words (a .. z)");
        B.faultyAt(1, "|newa 7;");
        B.faultyAt(1, "|newz 7;");
        B.faultyAt(1, "|anew 7;");
        B.faultyAt(1, "|znew 7;");
        char[] others = {'`', '{', 'A', 'Z', '@', '[', '_', 225, 250, 128, 255};
        for (char other : others) {
            B.faultyAt(1, "new|" + other + " 7;");
            B.faultyAt(1, "|" + other + "new 7;");
        }
        B.faultyAt(1, "|New 7;");
        B.faultyAt(1, "|ne 7;");
    }

    /** Every word of a text that has them all, with one letter changed, dropped or added: none is a word any more. */
    private static void termIOtherWords() {
        B.term("I", "1 a TOKEN that is none, or can't stand there");
        String text = "house at 0 0 rank 1 home sun 0 9 came 1 bride 1;house at 0 0 rank 1 home sat 0 9;know 0 1;new 1;introduce 1;"
            + "sent owes dinner within 1 if mine more theirs plus debts and day times 2 less known minus 1 and 1 same 1;"
            + "card owes call within 1;call owes card within 1;dinner owes sent within 1;";
        B.good(text, 2);
        for (int from = 0; from < text.length(); from++) {
            boolean begins = isLetter(text, from) && !isLetter(text, from - 1);
            for (int at = from; begins && isLetter(text, at); at++) {
                B.faulty(text.substring(0, at) + "q" + text.substring(at + 1), 1, from);
                B.faulty(text.substring(0, at) + "q" + text.substring(at), 1, from);
                B.faulty(text.substring(0, at) + text.substring(at + 1), 1, from);
                B.faulty(text.substring(0, at + 1) + "q" + text.substring(at + 1), 1, from);
            }
        }
    }

    private static boolean isLetter(String text, int at) {
        return at >= 0 && at < text.length() && text.charAt(at) >= 'a' && text.charAt(at) <= 'z';
    }

    private static void termIDigits() {
        B.term("I", "numbers (digits)");
        B.due("90", B.good("new 90;", 0).count(9), 90);
        B.due("09", B.good("new 09;", 0).count(9), 9);
        B.due("many zeros ahead", B.good("new 0000000000000000000000000000012;", 0).count(9), 12);
        B.faultyAt(1, "new 7|/;");
        B.faultyAt(1, "new 7|:;");
        B.faultyAt(1, "new |/7;");
        B.faultyAt(1, "new |+7;");
        B.faultyAt(1, "new |-7;");
        for (char other : new char[] {'/', ':', '-', '.', 'o'}) {
            B.faultyAt(1, "introduce |" + other + ";");
            B.faultyAt(1, "know |" + other + " 1;");
            B.faultyAt(1, Bounds.houses(2) + "know |" + other + " 1;");
            B.faultyAt(1, Bounds.houses(2) + "know 0 |" + other + ";");
        }
        B.term("I", "2 a number out of its bounds");
        String[] wrapped = {"4294967296", "4294967303", "2147483648", "18446744073709551616", "18446744073709551623",
            "99999999999999999999999999999999999999999"};
        for (String number : wrapped) {
            B.faultyAt(2, "new |" + number + ";");
            B.faultyAt(2, "introduce |" + number + ";");
            B.faultyAt(2, Bounds.houses(9) + "know 0 |" + number + ";");
        }
    }

    private static void termISigns() {
        B.term("I", "the sign ;");
        B.good("new 7;", 0);
        B.faultyAt(1, "new 7|:");
        B.faultyAt(1, "new 7|<");
        B.faultyAt(1, "new 7|,");
    }

    private static void termILongest() {
        B.term("I", "the longest");
        B.due("a word, a number", B.good("new12;", 0).count(9), 12);
        B.faultyAt(2, "new |123;");
        B.faultyAt(1, "new 1 |2;");
        B.faultyAt(1, "|newnew 1;");
        B.faultyAt(1, "new 1|new;");
        B.due("numbers and words in turn", B.good("house at0 7rank3home sun0 9came5bride6;", 1).house(0, 6), 5);
        B.faultyAt(1, "|houseat 0 7 rank 3 home sun 0 9;");
        B.faultyAt(2, "house at |00007000 7 rank 3 home sun 0 9;");
    }

    private static void termIFirstFault() {
        B.term("I", "FAULTS, the first by its place (a TOKEN's first byte; the end's)");
        B.faultyAt(2, "new |100;x");
        B.faultyAt(1, "|x;new 100;");
        B.faultyAt(2, "new |100 x");
        B.faultyAt(1, "new 1 |x 100");
        B.faultyAt(2, "   \n  new   |100;");
        B.faultyAt(1, OWES.repeat(24) + "|x;" + OWES);
        B.faultyAt(2, OWES.repeat(24) + "new |100;" + OWES);
        B.faultyAt(3, OWES.repeat(24) + "|" + OWES + "new 100;");
        B.faultyAt(2, "new |100" + (char) 255);
    }

    private static void termIEnd() {
        B.term("I", "the end's");
        B.faultyAt(1, "new|");
        B.faultyAt(1, "new 1|");
        B.faultyAt(1, "new 1 |");
        B.faultyAt(1, "new 1\n\n|");
        B.faultyAt(2, "new |100");
        B.faultyAt(1, Bounds.houses(1) + "know 0|");
        String blanks = " ".repeat(1394);
        B.due("the last byte of a full tape", B.good(blanks + "new 5;", 0).count(9), 5);
        B.faultyAt(1, blanks + " new 5|");
        B.faultyAt(1, blanks + "new 5|:");
        B.faultyAt(1, "new 5" + blanks + " |");
    }

    private static void termILeastFault() {
        B.term("I", "of one place the least: 1 a TOKEN that is none, or can't stand there");
        B.faultyAt(1, "|1000;");
        B.faultyAt(1, "house at 0 0 |1000 rank 1 home sun 0 9;");
        B.faultyAt(1, "new 1 |1000;");
        B.faultyAt(1, "card owes card within 1 if 1 |1000 same 1;");
        B.faultyAt(1, Bounds.houses(16) + "|houses at 0 0 rank 1 home sun 0 9;");
        B.faultyAt(1, OWES.repeat(24) + "|cards owes card within 1;");
        B.faultyAt(1, "|at 1;");
    }

    private static void termIFaultsOfOneTooMany() {
        B.term("I", "3 a 17th HOUSE, a 25th LINE with owes (at its first TOKEN)");
        B.faultyAt(3, Bounds.houses(16) + "|house at 0 0 rank 1 home sun 0 9;");
        B.faultyAt(3, Bounds.houses(16) + "new 1;\n |house at 0 0 rank 1 home sun 0 9;");
        B.faultyAt(3, Bounds.houses(16) + "|house at 100 0 rank 1 home sun 0 9;");
        B.faultyAt(3, Bounds.houses(16) + "|house");
        for (String paying : Bounds.PAYINGS) {
            B.faultyAt(3, OWES.repeat(24) + "|" + paying + " owes card within 1;");
            B.faultyAt(3, OWES.repeat(24) + "\n |" + paying + " owes card within 100;");
        }
        B.due("both are full", B.good(Bounds.houses(16) + OWES.repeat(24) + "new 1;", 16).count(1), 24);
    }

    private static void promise1NewObject() {
        B.promise(1, "No TOWN: no HOUSES, no CODE; DAY 0, nothing DONE.");
        CardBowl x = new CardBowl();
        B.counts("of a new object", x, 0, 0, 0, 0, 0, 0, 0, 0, 3, 0, 0);
        B.due("debts(0)", x.debts(0), -2);
        B.due("house(0, 0)", x.house(0, 0), Bounds.NOTHING);
        B.due("known(0, 1)", x.known(0, 1), -2);
        B.due("first()", x.first(), -1);
        B.due("rings()", x.rings(), 0);
        for (int k = 0; k < 3; k++) {
            B.due("back(" + k + ")", x.back(k), -6);
        }
        for (int slot = 0; slot < 4; slot++) {
            B.due("done(" + slot + ")", x.done(slot), -6);
        }
    }

    private static void promise2Feed() {
        B.promise(2, "how many it has; NONE, and none come, if it would have more than 1,400");
        CardBowl x = new CardBowl();
        for (int i = 1; i <= 70; i++) {
            B.due("feed " + i, x.feed(0, 0, 0, 0, 0), 20 * i);
        }
        B.due("the 71st", x.feed(0, 0, 0, 0, 0), -1);
        B.due("none came", x.count(7), 1400);
        for (int has = 1399; has > 1380; has--) {
            B.due("end", x.end(has), has);
            B.due("feed behind " + has, x.feed(0, 0, 0, 0, 0), -1);
            B.due("none came", x.count(7), has);
        }
        B.due("end(1380)", x.end(1380), 1380);
        B.due("feed behind 1380", x.feed(0, 0, 0, 0, 0), 1400);
        B.due("end(7)", x.end(7), 7);
        B.due("feed behind 7", x.feed(0, 0, 0, 0, 0), 27);
    }

    /** A byte that is no sign is told by its place: so each of the twenty can be seen. */
    private static void promise2Bytes() {
        B.promise(2, "Twenty bytes come behind the TAPE, four of each number, the highest first");
        int blanks = 0x20202020;
        for (int place = 0; place < 20; place++) {
            for (int sign : new int[] {0, 128, 255}) {
                int[] numbers = {blanks, blanks, blanks, blanks, blanks};
                int shift = 24 - 8 * (place % 4);
                numbers[place / 4] = blanks & ~(255 << shift) | sign << shift;
                CardBowl x = new CardBowl();
                x.feed(blanks, blanks, blanks, blanks, blanks);
                B.due("feed", x.feed(numbers[0], numbers[1], numbers[2], numbers[3], numbers[4]), 40);
                B.due("town with " + sign + " at " + (20 + place), x.town(), -4);
                B.due("fault(1)", x.fault(1), 20 + place);
            }
        }
    }

    private static void promise3End() {
        B.promise(3, "The TAPE has its first n bytes alone: n; NONE, and nothing happens, if it has not so many, or n is below 0");
        CardBowl x = new CardBowl();
        B.due("end(0) of none", x.end(0), 0);
        B.due("end(1) of none", x.end(1), -1);
        Check.feed(x, "new 5;new 6; new 7; ");
        B.due("end(20) of 20", x.end(20), 20);
        B.due("end(21) of 20", x.end(21), -1);
        B.due("it still has", x.count(7), 20);
        for (int n : Bounds.FAR_OFF) {
            B.due("end(" + n + ")", x.end(n), -1);
            B.due("it still has", x.count(7), 20);
        }
        B.due("end(12)", x.end(12), 12);
        B.due("end(13) of 12", x.end(13), -1);
        x.town();
        B.due("its first bytes alone", x.count(9), 6);
        String[] cut = {"new|s", "new 10|0;", "new 10;|x", "new 10; |;", "new 9|;", "|new 9;", "new |9;", "new 1|0;"};
        int[] faults = {1, 1, 0, 0, 1, 0, 1, 1};
        for (int i = 0; i < cut.length; i++) {
            int n = cut[i].indexOf('|');
            Check.feed(x, cut[i].substring(0, n) + cut[i].substring(n + 1));
            B.due("end(" + n + ")", x.end(n), n);
            x.town();
            B.due("fault(0) of " + cut[i], x.fault(0), faults[i]);
            B.due("fault(1) of " + cut[i], x.fault(1), faults[i] == 0 ? -1 : n);
        }
        Check.feed(x, "new 8;");
        B.due("end(0)", x.end(0), 0);
        x.town();
        B.due("none is left", x.count(9), 0);
        while (x.count(7) < 1400) {
            x.feed(0, 0, 0, 0, 0);
        }
        B.due("end(1401)", x.end(1401), -1);
        B.due("end(1400)", x.end(1400), 1400);
    }

    private static void promise4Town() {
        B.promise(4, "The TAPE (empty then) is the TOWN with its CODE (in place of another): how many HOUSES; it is DAY 0, nothing is DONE then");
        CardBowl x = Check.with(Bounds.houses(3) + Bounds.know(0, 1, 0, 2) + "new 9;introduce 1;card owes card within 0;");
        B.due("the tape", x.count(7), 0);
        x.does(0, 1, 1);
        x.does(1, 0, 1);
        x.does(0, 2, 2);
        x.meet(1, 2);
        x.days(5);
        B.counts("ahead", x, 3, 1, 5, 1, 1, 4, 1, 0, 1, 9, 0);
        B.due("a town of one", Check.town(x, Bounds.ranked(7)), 1);
        B.counts("then", x, 1, 0, 0, 0, 0, 0, 0, 0, 3, 0, 0);
        B.due("debts(0)", x.debts(0), 0);
        B.due("slights(0)", x.slights(0), 0);
        B.due("first()", x.first(), -1);
        B.due("house(0, 7)", x.house(0, 7), 0);
        B.due("reach(0)", x.reach(0), 1);
        B.due("house 1 is gone", x.debts(1), -2);
        B.due("the same once more, with none behind", Check.town(x, Bounds.houses(3)), 3);
        B.due("nobody is known any more", x.known(0, 1) + x.known(0, 2) + x.known(1, 2), 0);
        Check.town(x, Bounds.at(0, 0, 0, 0, 180) + Bounds.at(9, 0, 0, 0, 180) + Bounds.houses(1) + Bounds.know(0, 1, 1, 2) + "introduce 1;card owes card within 1;");
        x.does(1, 0, 1);
        B.due("the round of that town", x.worth(0, 0), 2);
        B.due("the way of that town", x.soon(0, 2), 1);
        Check.town(x, Bounds.houses(3));
        B.due("no round of it is left", x.worth(0, 0), 0);
        Check.town(x, Bounds.houses(3) + Bounds.know(0, 1, 1, 2) + "introduce 1;");
        B.due("a way again", x.soon(0, 2), 1);
        Check.town(x, Bounds.houses(3));
        B.due("no way of it is left", x.soon(0, 2), -1);
        B.due("an empty tape: no houses", x.town(), 0);
        B.counts("of none", x, 0, 0, 0, 0, 0, 0, 0, 0, 3, 0, 0);
    }

    private static void promise4Fault() {
        B.promise(4, "-4: a FAULT (all stays)");
        CardBowl x = Check.with(Bounds.houses(3) + Bounds.know(0, 1, 0, 2) + "new 9;introduce 1;card owes card within 0;");
        x.does(0, 1, 1);
        x.does(1, 0, 1);
        x.does(0, 2, 2);
        x.meet(1, 2);
        x.days(5);
        x.row(2, 1, 4);
        x.keep(1);
        String[] faults = {Bounds.houses(16) + "house", "new 100;", Bounds.ranked(5) + "new 3;introduce 4;card owes call within 9", "x"};
        for (String text : faults) {
            B.due("town of " + text, Check.town(x, text), -4);
            B.counts("behind it", x, 3, 1, 5, 1, 1, 4, 1, 0, 1, 9, 1);
            B.due("known(1, 2)", x.known(1, 2), 1);
            B.due("rank of 0", x.house(0, 2), 1);
            B.due("owes(2, 1, 1)", x.owes(2, 1, 1), 1);
            B.due("debt(0, 0, 2)", x.debt(0, 0, 2), 0);
        }
        B.due("the image stays", x.back(1), 0);
    }

    private static void promise5Fault() {
        B.promise(5, "Of the latest town(), what 0: its FAULT, 0 without, 1: its place (NONE without)");
        CardBowl x = new CardBowl();
        Check.town(x, "new 100;");
        B.due("fault(0)", x.fault(0), 2);
        B.due("fault(1)", x.fault(1), 4);
        Check.town(x, ";");
        B.due("fault(0)", x.fault(0), 1);
        B.due("its place, the first byte", x.fault(1), 0);
        Check.town(x, OWES.repeat(25));
        B.due("fault(0)", x.fault(0), 3);
        B.due("fault(1)", x.fault(1), 24 * OWES.length());
        Check.town(x, "new 99;");
        B.due("without", x.fault(0), 0);
        B.due("without", x.fault(1), -1);
    }

    private static void promise5AheadOfAny() {
        B.promise(5, "NONE for another what, and ahead of any (what 1)");
        CardBowl x = new CardBowl();
        B.due("fault(0) ahead of any", x.fault(0), 0);
        B.due("fault(1) ahead of any", x.fault(1), -1);
        B.due("fault(2) ahead of any", x.fault(2), -1);
        Check.town(x, "x");
        B.due("fault(1)", x.fault(1), 0);
        B.due("fault(2)", x.fault(2), -1);
        for (int what : Bounds.FAR_OFF) {
            B.due("fault(" + what + ")", x.fault(what), -1);
        }
    }

    private static void promise6Days() {
        B.promise(6, "n (0 .. 60) DAYS go by: the DAY. -2: others, or it would be above 399");
        CardBowl x = new CardBowl();
        B.due("days(0)", x.days(0), 0);
        B.due("days(-1)", x.days(-1), -2);
        B.due("days(61)", x.days(61), -2);
        B.due("days(60)", x.days(60), 60);
        for (int n : Bounds.FAR_OFF) {
            B.due("days(" + n + ")", x.days(n), -2);
        }
        B.due("the day stays", x.count(2), 60);
        Bounds.go(x, 339);
        B.due("days(60) to 399", x.days(60), 399);
        B.due("days(1) from 399", x.days(1), -2);
        B.due("days(0) from 399", x.days(0), 399);
        B.due("days(60) from 399", x.days(60), -2);
        CardBowl y = new CardBowl();
        Bounds.go(y, 340);
        B.due("days(60) to 400", y.days(60), -2);
        B.due("the day stays", y.count(2), 340);
        B.due("days(59) to 399", y.days(59), 399);
    }
}
