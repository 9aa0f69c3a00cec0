/** Promises 23 to 29: how to come to know a house, who hangs together, whom to drop, rings. */
public final class WaysTest {
    private static final Check CHECK = new Check("WaysTest");

    public static void main(String[] args) {
        ways();
        waysThere();
        leastWay();
        longestWay();
        together();
        drops();
        ties();
        rings();
        CHECK.finish();
    }

    private static String house(int rank) {
        return "house at 0 0 rank " + rank + " home sun 0 180;";
    }

    private static CardBowl circle(int houses, String links, String rest) {
        StringBuilder b = new StringBuilder();
        for (int i = 0; i < houses; i++) {
            b.append(house(1));
        }
        for (String link : links.isEmpty() ? new String[0] : links.split(",")) {
            b.append("know ").append(link).append(';');
        }
        return Check.with(b.append(rest).toString());
    }

    private static void wayIs(CardBowl x, int a, int b, int... calls) {
        CHECK.due("soon(" + a + ", " + b + ")", x.soon(a, b), calls.length);
        for (int i = 0; i < calls.length; i++) {
            CHECK.due("path(" + a + ", " + b + ", " + i + ")", x.path(a, b, i), calls[i]);
        }
        CHECK.due("no more", x.path(a, b, calls.length), -1);
        CHECK.due("none ahead", x.path(a, b, -1), -1);
    }

    private static void never(CardBowl x, int a, int b) {
        CHECK.due("soon(" + a + ", " + b + ")", x.soon(a, b), -1);
        CHECK.due("path(" + a + ", " + b + ", 0)", x.path(a, b, 0), -1);
    }

    private static void ways() {
        CardBowl x = circle(6, "0 1,1 2,2 3,3 4", "introduce 1;");
        wayIs(x, 0, 1);
        wayIs(x, 0, 2, 2);
        wayIs(x, 0, 4, 2, 3, 4);
        wayIs(x, 4, 0, 2, 1, 0);
        never(x, 0, 5);
        never(x, 5, 0);
        int[][] wrong = {{0, 0}, {0, 6}, {6, 0}, {-1, 0}, {0, -1}};
        for (int[] w : wrong) {
            CHECK.due("soon of none such", x.soon(w[0], w[1]), -2);
            CHECK.due("path of none such", x.path(w[0], w[1], 0), -2);
        }
        CardBowl y = circle(6, "0 1,0 2,1 3,2 3,3 4,1 4,4 5,3 5,1 5", "introduce 2;");
        wayIs(y, 0, 3, 3);
        wayIs(y, 0, 4, 3, 4);
        wayIs(y, 0, 5, 3, 5);
        CardBowl z = circle(6, "0 1,0 2,1 3,2 3,3 4,1 4,4 5,3 5,1 5", "");
        never(z, 0, 3);
        z.meet(0, 3);
        wayIs(z, 0, 3);
        z.meet(2, 4);
        wayIs(z, 0, 5, 4, 5);
    }

    private static void waysThere() {
        CardBowl x = Check.with(house(1) + house(1) + "house at 0 0 rank 1 home mon 0 9 came 2;" + house(1)
            + "know 0 1;know 1 2;know 2 3;introduce 1;");
        never(x, 0, 2);
        never(x, 0, 3);
        x.days(2);
        wayIs(x, 0, 3, 2, 3);
        // one who is not there introduces all the same
        CardBowl y = Check.with(house(1) + "house at 0 0 rank 1 home mon 0 9 came 2;" + house(1)
            + "know 0 1;know 1 2;introduce 1;");
        wayIs(y, 0, 2, 2);
        CHECK.due("days go by, known stays 0", y.days(1) + y.known(0, 2), 1);
    }

    private static void leastWay() {
        CardBowl x = circle(7, "0 1,1 5,1 4,5 6,4 6,1 3,3 2,2 6", "introduce 1;");
        wayIs(x, 0, 6, 4, 6);
        // two introducers: 3 and 4 are wanted for 5, in either order; the least goes first
        CardBowl y = circle(7, "0 1,0 2,1 4,2 4,1 3,2 3,3 5,4 5,1 6,2 6", "introduce 2;");
        wayIs(y, 0, 5, 3, 4, 5);
        // 5 opens 3: it has to go first
        CardBowl z = circle(7, "0 1,0 2,1 5,2 5,5 3,1 3,3 4,5 4,1 6,2 6", "introduce 2;");
        wayIs(z, 0, 4, 5, 3, 4);
    }

    private static void longestWay() {
        StringBuilder links = new StringBuilder("0 1");
        for (int i = 1; i < 15; i++) {
            links.append(",").append(i).append(" ").append(i + 1);
        }
        CardBowl x = circle(16, links.toString(), "introduce 1;");
        wayIs(x, 0, 15, 2, 3, 4, 5, 6, 7, 8, 9, 10, 11, 12, 13, 14, 15);
        wayIs(x, 15, 0, 13, 12, 11, 10, 9, 8, 7, 6, 5, 4, 3, 2, 1, 0);
    }

    private static void together() {
        CardBowl x = circle(5, "0 1,1 2", "");
        CHECK.due("reach(0)", x.reach(0), 7);
        CHECK.due("reach(2)", x.reach(2), 7);
        CHECK.due("alone", x.reach(3), 8);
        CHECK.due("reach(5)", x.reach(5), -2);
        CHECK.due("reach(-1)", x.reach(-1), -2);
        x.meet(4, 2);
        CHECK.due("reach(0)", x.reach(0), 23);
    }

    private static void drops() {
        CardBowl x = Check.with(house(5) + house(4) + house(2) + house(2) + house(0)
            + "know 0 1;know 0 2;know 0 3;know 1 2;know 2 3;know 0 4;card owes card within 9;");
        CHECK.due("of two of the least rank the first; 4 hangs on 0 alone", x.drop(0), 2);
        x.does(2, 0, 1);
        CHECK.due("to 2 it owes", x.drop(0), 3);
        x.does(3, 0, 1);
        CHECK.due("to 3 as well", x.drop(0), 1);
        x.does(1, 0, 1);
        CHECK.due("nobody", x.drop(0), -1);
        CHECK.due("4 has but one", x.drop(4), -1);
        CHECK.due("what others owe is nothing to 3", x.drop(3), 2);
        CHECK.due("drop(5)", x.drop(5), -2);
        CHECK.due("drop(-1)", x.drop(-1), -2);
    }

    private static void ties() {
        CardBowl x = circle(5, "0 1,1 2,2 0,2 3", "");
        CHECK.due("in a triangle", x.tie(0, 1), 0);
        CHECK.due("the only tie", x.tie(2, 3), 1);
        CHECK.due("and back", x.tie(3, 2), 1);
        CHECK.due("who do not know each other", x.tie(0, 3), -1);
        CHECK.due("tie(0, 4)", x.tie(0, 4), -1);
        CHECK.due("tie(2, 2)", x.tie(2, 2), -2);
        CHECK.due("tie(2, 5)", x.tie(2, 5), -2);
        CHECK.due("tie(-1, 2)", x.tie(-1, 2), -2);
        x.meet(3, 0);
        CHECK.due("no more the only one", x.tie(2, 3), 0);
    }

    private static void rings() {
        CardBowl x = circle(8, "0 1,1 2,2 0,2 3,3 4,4 5,5 6,6 7,0 5,3 5", "");
        CHECK.due("none called", x.rings(), 0);
        CHECK.due("ring(0)", x.ring(0), 0);
        x.does(0, 1, 2);
        CHECK.due("one way alone", x.rings(), 0);
        x.does(1, 0, 1);
        CHECK.due("a card is no call", x.rings(), 0);
        x.meet(1, 0);
        CHECK.due("nor is a meeting", x.rings(), 0);
        x.does(1, 0, 3);
        CHECK.due("a dinner is", x.rings(), 1);
        CHECK.due("ring(0)", x.ring(0), 3);
        CHECK.due("ring(1)", x.ring(1), 3);
        x.does(2, 0, 2);
        CHECK.due("who calls on a ring is not in it", x.ring(2), 0);
        CHECK.due("one still", x.rings(), 1);
        x.does(0, 2, 2);
        CHECK.due("now it is", x.ring(2), 7);
        CHECK.due("and with it the ring is greater", x.ring(1), 7);
        CHECK.due("one", x.rings(), 1);
        x.does(3, 4, 2);
        x.does(4, 5, 2);
        x.does(5, 3, 2);
        CHECK.due("two", x.rings(), 2);
        CHECK.due("ring(4)", x.ring(4), 56);
        x.does(5, 6, 2);
        CHECK.due("6 never called: no ring", x.ring(4), 0);
        CHECK.due("one", x.rings(), 1);
        x.does(6, 7, 2);
        x.does(7, 6, 2);
        CHECK.due("the smallest alone", x.ring(5), 0);
        CHECK.due("6 and 7", x.ring(7), 192);
        CHECK.due("two", x.rings(), 2);
        CHECK.due("ring(8)", x.ring(8), -2);
        CHECK.due("ring(-1)", x.ring(-1), -2);
    }
}
