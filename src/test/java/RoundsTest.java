/** Promises 17 to 22: the best round, whether a row can be walked, the fewest days, what is lost. */
public final class RoundsTest {
    private static final Check CHECK = new Check("RoundsTest");
    private static final String[] WEEKDAYS = {"sun", "mon", "tue", "wed", "thu", "fri", "sat"};
    /** A card makes a card owed, sent a call, and a call a dinner. */
    private static final String CODE = "card owes card within 5;sent owes call within 20;call owes dinner within 30;";

    public static void main(String[] args) {
        nobody();
        wrongOnes();
        cards();
        calls();
        greatestKind();
        waitsAtTheDoor();
        overFirst();
        leastBits();
        leastRow();
        rowThatWaits();
        firstTen();
        walks();
        fewestDays();
        dueDays();
        lostOnes();
        firstTenDebts();
        CHECK.finish();
    }

    private static String house(int x, int y, int weekday, int from, int to) {
        return "house at " + x + " " + y + " rank 1 home " + WEEKDAYS[weekday] + " " + from + " " + to + ";";
    }

    /** House 0 at 0 0, the others as told; house 0 knows them all. */
    private static CardBowl around(String... houses) {
        StringBuilder b = new StringBuilder(house(0, 0, 0, 0, 180));
        for (String h : houses) {
            b.append(h);
        }
        for (int i = 1; i <= houses.length; i++) {
            b.append("know 0 ").append(i).append(';');
        }
        return Check.with(b.append(CODE).toString());
    }

    private static void roundIs(CardBowl x, int day, int worth, int over, int... order) {
        // another house is asked for between, so that no answer leans on the call ahead of it
        x.over(1, day);
        CHECK.due("worth", x.worth(0, day), worth);
        x.worth(1, day);
        CHECK.due("over", x.over(0, day), over);
        x.over(1, day);
        for (int i = 0; i < order.length; i++) {
            CHECK.due("round " + i, x.round(0, day, i), order[i]);
        }
        CHECK.due("no more", x.round(0, day, order.length), -1);
        CHECK.due("none ahead", x.round(0, day, -1), -1);
        Check.row(x, 0, java.util.Arrays.stream(order).asLongStream().toArray());
        CHECK.due("it can be walked", x.may(0, 0, day), 1);
    }

    private static void nobody() {
        CardBowl x = around(house(1, 1, 0, 0, 180));
        roundIs(x, 0, 0, 0);
        CHECK.due("fewest", x.fewest(0), 0);
        CHECK.due("lost", x.lost(0), 0);
    }

    private static void wrongOnes() {
        CardBowl x = around(house(1, 1, 0, 0, 180));
        x.days(3);
        int[][] wrong = {{-1, 3}, {2, 3}, {0, 2}, {0, 400}, {0, -1}};
        for (int[] w : wrong) {
            CHECK.due("worth of none such", x.worth(w[0], w[1]), -2);
            CHECK.due("over of none such", x.over(w[0], w[1]), -2);
            CHECK.due("round of none such", x.round(w[0], w[1], 0), -2);
            CHECK.due("may of none such", x.may(0, w[0], w[1]), -2);
        }
        CHECK.due("may of no slot", x.may(4, 0, 3), -2);
        CHECK.due("may of no slot", x.may(-1, 0, 3), -2);
        CHECK.due("may of nothing", x.may(2, 0, 3), -6);
        CHECK.due("day 399", x.worth(0, 399), 0);
        CHECK.due("fewest of none such", x.fewest(2), -2);
        CHECK.due("fewest of none such", x.fewest(-1), -2);
        CHECK.due("lost of none such", x.lost(2), -2);
        CHECK.due("lost of none such", x.lost(-1), -2);
    }

    private static void cards() {
        CardBowl x = around(house(90, 90, 3, 0, 0), house(99, 82, 3, 0, 0), house(0, 0, 3, 0, 0));
        x.does(1, 0, 1);
        roundIs(x, 0, 2, 180, 1);
        x.does(2, 0, 1);
        // 180 + 17 is too late, and 181 as well
        roundIs(x, 6, 2, 180, 1);
        CHECK.due("181 minutes alone are lost", x.lost(0), 2);
        CHECK.due("so it can't be", x.fewest(0), -1);
        x.does(3, 0, 1);
        roundIs(x, 0, 4, 180, 3, 1);
        CardBowl y = around(house(0, 0, 1, 0, 0));
        y.does(1, 0, 1);
        roundIs(y, 0, 2, 0, 1);
    }

    private static void calls() {
        CardBowl x = around(house(10, 0, 2, 5, 25), house(5, 0, 2, 0, 19), house(10, 0, 2, 5, 24));
        x.does(1, 0, 0);
        roundIs(x, 2, 3, 25, 1);
        roundIs(x, 9, 3, 25, 1);
        roundIs(x, 3, 0, 0);
        x.does(2, 0, 0);
        // 5 + 15 is behind 19; house 3 would want minute 25
        roundIs(x, 2, 3, 25, 1);
        x.does(3, 0, 0);
        roundIs(x, 2, 3, 25, 1);
        CHECK.due("two of them are lost", x.lost(0), 6);
    }

    private static void greatestKind() {
        CardBowl x = around(house(10, 0, 2, 30, 60));
        x.does(1, 0, 1);
        roundIs(x, 0, 2, 10, 1);
        x.does(1, 0, 0);
        roundIs(x, 0, 0, 0);
        roundIs(x, 2, 5, 45, 1);
        x.days(2);
        x.does(1, 0, 0);
        CHECK.due("not the tuesday of a call on 0", x.does(1, 0, 2), -5);
        x.days(5);
        x.does(1, 0, 2);
        roundIs(x, 9, 9, 45, 1);
    }

    private static void waitsAtTheDoor() {
        CardBowl x = around(house(10, 0, 0, 100, 115), house(20, 0, 0, 20, 50), house(10, 0, 0, 101, 115));
        x.does(1, 0, 0);
        x.does(2, 0, 0);
        x.does(3, 0, 0);
        roundIs(x, 0, 6, 115, 2, 1);
        CHECK.due("house 3 is never home long enough", x.lost(0), 4);
    }

    private static void overFirst() {
        // a card of worth 2 each: only one of the two can be reached, the nearer one counts
        CardBowl x = around(house(90, 0, 0, 0, 0), house(0, 99, 0, 0, 0), house(0, 95, 0, 0, 0));
        x.does(1, 0, 1);
        x.does(2, 0, 1);
        roundIs(x, 0, 2, 90, 1);
        x.does(3, 0, 1);
        roundIs(x, 0, 4, 99, 3, 2);
    }

    private static void leastBits() {
        CardBowl x = around(house(95, 0, 0, 0, 0), house(0, 95, 0, 0, 0));
        x.does(2, 0, 1);
        x.does(1, 0, 1);
        roundIs(x, 0, 2, 95, 1);
        CardBowl y = around(house(0, 99, 0, 0, 0), house(99, 0, 0, 0, 0), house(99, 0, 0, 0, 0), house(0, 99, 0, 0, 0));
        for (int b = 1; b <= 4; b++) {
            y.does(b, 0, 1);
        }
        // 2 and 3 are the bits 12, 1 and 4 the bits 18
        roundIs(y, 0, 4, 99, 2, 3);
    }

    private static void leastRow() {
        CardBowl x = around(house(5, 0, 0, 0, 0), house(9, 0, 0, 0, 0), house(5, 0, 0, 0, 0), house(2, 0, 0, 0, 0));
        for (int b = 4; b >= 1; b--) {
            x.does(b, 0, 1);
        }
        roundIs(x, 0, 8, 9, 4, 1, 3, 2);
    }

    private static void rowThatWaits() {
        // the call on 4 begins at 60 whatever was seen ahead of it: 1 goes first, though 2 and 3 are nearer
        CardBowl x = around(house(6, 0, 0, 0, 0), house(2, 0, 0, 0, 0), house(4, 0, 0, 0, 0), house(8, 0, 0, 60, 75));
        for (int b = 1; b <= 3; b++) {
            x.does(b, 0, 1);
        }
        x.does(4, 0, 0);
        roundIs(x, 0, 9, 75, 1, 2, 3, 4);
    }

    private static void firstTen() {
        String[] houses = new String[12];
        for (int i = 0; i < 12; i++) {
            houses[i] = house(i, 0, 0, 0, 0);
        }
        CardBowl x = around(houses);
        for (int b = 12; b >= 1; b--) {
            x.does(b, 0, 1);
        }
        roundIs(x, 0, 20, 9, 1, 2, 3, 4, 5, 6, 7, 8, 9, 10);
        Check.row(x, 1, 11, 12);
        CHECK.due("a round may see the others", x.may(1, 0, 0), 1);
        CHECK.due("the first ten debts", x.fewest(0), 1);
        CHECK.due("none is lost", x.lost(0), 0);
    }

    private static void walks() {
        CardBowl x = around(house(10, 0, 0, 0, 40), house(20, 0, 0, 30, 60), house(30, 0, 1, 0, 180));
        x.does(1, 0, 0);
        x.does(2, 0, 0);
        Object[][] rows = {
            {new long[] {}, 1}, {new long[] {1}, 1}, {new long[] {2}, 1}, {new long[] {1, 2}, 1},
            {new long[] {2, 1}, 0}, {new long[] {1, 1}, 0}, {new long[] {3}, 0}, {new long[] {0}, 0},
            {new long[] {-1}, 0}, {new long[] {4}, 0}, {new long[] {(1L << 32) + 1}, 0}, {new long[] {1, 2, 16}, 0}};
        for (Object[] r : rows) {
            Check.row(x, 2, (long[]) r[0]);
            CHECK.due("may of " + java.util.Arrays.toString((long[]) r[0]), x.may(2, 0, 0), (Integer) r[1]);
        }
        Check.row(x, 2, 1);
        CHECK.due("another weekday", x.may(2, 0, 1), 0);
        CHECK.due("a week on", x.may(2, 0, 7), 1);
        CHECK.due("house 1 owes nothing", x.may(2, 1, 0), 0);
        Check.row(x, 2);
        CHECK.due("nobody", x.may(2, 1, 0), 1);
        x.row(2, 0, 1);
        x.write(2, 0, 257);
        CHECK.due("cut to a byte", x.may(2, 0, 0), 1);
    }

    private static void fewestDays() {
        CardBowl x = around(house(10, 0, 0, 0, 180), house(10, 0, 1, 0, 180), house(20, 0, 1, 0, 180),
            house(10, 10, 5, 0, 180), house(90, 0, 6, 0, 180), house(0, 91, 6, 0, 180));
        x.does(1, 0, 0);
        CHECK.due("one", x.fewest(0), 1);
        x.does(2, 0, 0);
        CHECK.due("sunday and monday", x.fewest(0), 2);
        x.does(3, 0, 0);
        CHECK.due("both on monday", x.fewest(0), 2);
        x.does(4, 0, 1);
        CHECK.due("a card whenever", x.fewest(0), 2);
        x.does(5, 0, 1);
        x.does(6, 0, 1);
        CHECK.due("one there, one here", x.fewest(0), 2);
        x.does(4, 0, 0);
        CHECK.due("a friday too", x.fewest(0), 3);
        CardBowl y = around(house(90, 0, 6, 0, 180), house(0, 91, 6, 0, 180));
        y.does(1, 0, 1);
        y.does(2, 0, 1);
        CHECK.due("too far for one round", y.fewest(0), 2);
        y.does(1, 0, 0);
        y.does(2, 0, 0);
        CHECK.due("both on one saturday alone", y.fewest(0), -1);
        CHECK.due("the cards by day 5 are lost", y.lost(0), 3);
    }

    private static void dueDays() {
        CardBowl x = around(house(1, 0, 5, 0, 180), house(1, 0, 6, 0, 180));
        x.does(1, 0, 1);
        x.does(1, 0, 0);
        CHECK.due("the friday is the last day of the card", x.fewest(0), 1);
        x.does(2, 0, 0);
        CHECK.due("friday and saturday", x.fewest(0), 2);
        x.days(5);
        CHECK.due("on the due day", x.fewest(0), 2);
        CHECK.due("none is lost", x.lost(0), 0);
        x.days(1);
        CHECK.due("a day behind it", x.fewest(0), -1);
        CHECK.due("the card alone is lost", x.lost(0), 1);
        CardBowl y = around(house(1, 0, 6, 0, 180));
        y.does(1, 0, 0);
        CHECK.due("the sixth day behind", y.fewest(0), 1);
        y.days(14);
        CHECK.due("due on the 20th, a saturday", y.fewest(0), 1);
        y.days(7);
        CHECK.due("due yesterday", y.fewest(0), -1);
        CHECK.due("lost", y.lost(0), 1);
        CHECK.due("but a round sees it all the same", y.worth(0, 27), 3);
    }

    private static void lostOnes() {
        CardBowl x = around(house(1, 0, 0, 0, 180), house(99, 82, 3, 0, 180), house(1, 0, 0, 0, 180),
            house(1, 1, 4, 170, 180));
        for (int b = 1; b <= 4; b++) {
            x.does(b, 0, 0);
        }
        CHECK.due("one too far, one home too short", x.lost(0), 10);
        CHECK.due("fewest", x.fewest(0), -1);
        // each alone on the same minutes of one day: none is lost, but it can't be
        CardBowl y = around(house(1, 0, 2, 30, 45), house(1, 0, 2, 30, 45));
        y.does(1, 0, 0);
        y.does(2, 0, 0);
        CHECK.due("none is lost alone", y.lost(0), 0);
        CHECK.due("together it can't be", y.fewest(0), -1);
    }

    private static void firstTenDebts() {
        String[] houses = new String[11];
        for (int i = 0; i < 11; i++) {
            houses[i] = house(i == 10 ? 99 : 1, i == 10 ? 99 : 1, 0, 0, 180);
        }
        CardBowl x = around(houses);
        for (int b = 1; b <= 11; b++) {
            x.does(b, 0, 1);
        }
        CHECK.due("the eleventh is too far, and not looked at", x.fewest(0), 1);
        CHECK.due("lost", x.lost(0), 0);
        x.does(0, 3, 1);
        CHECK.due("it is the tenth now", x.fewest(0), -1);
        CHECK.due("lost", x.lost(0), 512);
    }
}
