/** Term V and promises 17 to 22, at their bounds: the last that is within, the first that is not. */
public final class BoundsOfRoundsTest {
    private static final Bounds B = new Bounds("BoundsOfRoundsTest");
    /** Each kind of debt can be made on DAY 0, when house 0 is at home. */
    private static final String CODE = "dinner owes sent within 99;card owes card within 99;sent owes call within 99;"
        + "call owes dinner within 99;";
    private static final int[] MAKES = {3, 1, 0, 2};
    private static final int SENT = 0;
    private static final int CARD = 1;
    private static final int CALL = 2;
    private static final int DINNER = 3;

    public static void main(String[] args) {
        termVPlaces();
        termVOpenDebts();
        termVCallOrCard();
        termVWeekday();
        termVFifteenMinutes();
        termVWaitsTillFrom();
        termVByACard();
        termVAllAt180();
        termVWorth();
        termVOverFirst();
        termVLeastBits();
        termVLeastRow();
        termVFirstTen();
        promise17Worth();
        promise17AskedInTurn();
        promise18Round();
        promise19Over();
        promise20May();
        promise20Rows();
        promise20Refused();
        promise21Fewest();
        promise21DueDays();
        promise21FirstTen();
        promise22Lost();
        promise22FirstTen();
        B.finish("Term V", "promise 17", "promise 18", "promise 19", "promise 20", "promise 21", "promise 22");
    }

    /** House 0 at 0 0 and at home on DAY 0, the others as told; it knows them all. */
    private static CardBowl under(String code, String... houses) {
        StringBuilder text = new StringBuilder(Bounds.at(0, 0, 0, 0, 180));
        for (String house : houses) {
            text.append(house);
        }
        for (int b = 1; b <= houses.length; b++) {
            text.append(Bounds.know(0, b));
        }
        return Check.with(text + code);
    }

    private static CardBowl around(String... houses) {
        return under(CODE, houses);
    }

    private static void owe(CardBowl x, int b, int kind) {
        B.due("house " + b + " did it", Math.min(0, x.does(b, 0, MAKES[kind])), 0);
    }

    private static CardBowl owing(int kind, String... houses) {
        CardBowl x = around(houses);
        for (int b = 1; b <= houses.length; b++) {
            owe(x, b, kind);
        }
        return x;
    }

    private static void best(String what, CardBowl x, int day, int worth, int over, int... order) {
        B.due(what + ": worth", x.worth(0, day), worth);
        B.due(what + ": over", x.over(0, day), over);
        for (int i = 0; i < order.length; i++) {
            B.due(what + ": round " + i, x.round(0, day, i), order[i]);
        }
        B.due(what + ": no more", x.round(0, day, order.length), -1);
    }

    private static void termVPlaces() {
        B.term("V", "by minutes between places (X and Y, what they are apart, together)");
        best("next door", owing(CARD, Bounds.at(0, 0, 3, 0, 0)), 0, 2, 0, 1);
        best("by X alone", owing(CARD, Bounds.at(99, 0, 3, 0, 0)), 0, 2, 99, 1);
        best("by Y alone", owing(CARD, Bounds.at(0, 99, 3, 0, 0)), 0, 2, 99, 1);
        best("by both", owing(CARD, Bounds.at(30, 40, 3, 0, 0)), 0, 2, 70, 1);
        best("and between them", owing(CARD, Bounds.at(30, 40, 3, 0, 0), Bounds.at(40, 30, 3, 0, 0)), 0, 4, 90, 1, 2);
        CardBowl corners = Check.with(Bounds.at(99, 99, 0, 0, 180) + Bounds.at(10, 8, 3, 0, 0) + Bounds.know(0, 1) + CODE);
        owe(corners, 1, CARD);
        best("from the other end, 180", corners, 0, 2, 180, 1);
        CardBowl beyond = Check.with(Bounds.at(99, 99, 0, 0, 180) + Bounds.at(9, 8, 3, 0, 0) + Bounds.know(0, 1) + CODE);
        owe(beyond, 1, CARD);
        best("from the other end, 181", beyond, 0, 0, 0);
    }

    private static void termVOpenDebts() {
        B.term("V", "each one HOUSE to which it owes (open DEBTS of now, whatever their due DAY)");
        CardBowl x = under("card owes card within 0;", Bounds.at(5, 0, 3, 0, 0), Bounds.at(6, 0, 3, 0, 0));
        best("none", x, 0, 0, 0);
        x.does(1, 0, 1);
        best("due today", x, 0, 2, 5, 1);
        best("due ahead of that DAY", x, 1, 2, 5, 1);
        best("due long ahead", x, 399, 2, 5, 1);
        x.days(60);
        best("due ahead of today", x, 60, 2, 5, 1);
        x.does(0, 1, 1);
        best("paid", x, 60, 0, 0);
        B.due("what 1 owes is its own", x.worth(1, 60), 2);
    }

    private static void termVCallOrCard() {
        B.term("V", "by a call if the greatest KIND that it owes there is call or dinner");
        // from 30 to 60 on a tue: by a call it is over at 45
        String house = Bounds.at(10, 0, 2, 30, 60);
        best("sent", owing(SENT, house), 2, 1, 10, 1);
        best("card", owing(CARD, house), 2, 2, 10, 1);
        best("call", owing(CALL, house), 2, 3, 45, 1);
        best("dinner", owing(DINNER, house), 2, 4, 45, 1);
        CardBowl x = owing(SENT, house);
        owe(x, 1, CARD);
        best("sent and card", x, 2, 3, 10, 1);
        owe(x, 1, CALL);
        best("and a call", x, 2, 6, 45, 1);
        owe(x, 1, DINNER);
        best("and a dinner", x, 2, 10, 45, 1);
        best("not on its weekday", x, 3, 0, 0);
    }

    private static void termVWeekday() {
        B.term("V", "that DAY is its weekday");
        for (int weekday = 0; weekday < 7; weekday++) {
            CardBowl x = owing(CALL, Bounds.at(1, 0, weekday, 0, 180));
            for (int day = 0; day < 15; day++) {
                B.due("home " + Bounds.WEEKDAYS[weekday] + ", DAY " + day, x.worth(0, day), day % 7 == weekday ? 3 : 0);
            }
            B.due("DAY 399, a sun", x.worth(0, 399), weekday == 0 ? 3 : 0);
            B.due("DAY 398, a sat", x.worth(0, 398), weekday == 6 ? 3 : 0);
        }
    }

    private static void termVFifteenMinutes() {
        B.term("V", "15 minutes within from .. to");
        best("from 0 to 15, next door", owing(CALL, Bounds.at(0, 0, 0, 0, 15)), 0, 3, 15, 1);
        best("from 0 to 14, next door", owing(CALL, Bounds.at(0, 0, 0, 0, 14)), 0, 0, 0);
        best("fifteen of them, later", owing(CALL, Bounds.at(10, 0, 0, 50, 65)), 0, 3, 65, 1);
        best("fourteen of them, later", owing(CALL, Bounds.at(10, 0, 0, 50, 64)), 0, 0, 0);
        best("there 15 ahead of to", owing(CALL, Bounds.at(50, 0, 0, 0, 65)), 0, 3, 65, 1);
        best("there 14 ahead of to", owing(CALL, Bounds.at(51, 0, 0, 0, 65)), 0, 0, 0);
        best("the last minutes of all", owing(CALL, Bounds.at(10, 0, 0, 165, 180)), 0, 3, 180, 1);
        best("one too late for them", owing(CALL, Bounds.at(10, 0, 0, 166, 180)), 0, 0, 0);
        best("from and to at one", owing(CALL, Bounds.at(0, 0, 0, 0, 0)), 0, 0, 0);
        best("two calls, 15 each", owing(CALL, Bounds.at(0, 0, 0, 0, 30), Bounds.at(0, 0, 0, 0, 30)), 0, 6, 30, 1, 2);
        best("two calls in 29", owing(CALL, Bounds.at(0, 0, 0, 0, 29), Bounds.at(0, 0, 0, 0, 29)), 0, 3, 15, 1);
    }

    private static void termVWaitsTillFrom() {
        B.term("V", "(it may wait at the door till from)");
        best("there at from", owing(CALL, Bounds.at(40, 0, 0, 40, 180)), 0, 3, 55, 1);
        best("there one ahead of it", owing(CALL, Bounds.at(39, 0, 0, 40, 180)), 0, 3, 55, 1);
        best("there one behind it", owing(CALL, Bounds.at(41, 0, 0, 40, 180)), 0, 3, 56, 1);
        best("waits long", owing(CALL, Bounds.at(0, 0, 0, 160, 180)), 0, 3, 175, 1);
        CardBowl x = owing(CALL, Bounds.at(0, 0, 0, 160, 180), Bounds.at(0, 0, 0, 160, 180));
        best("and too long for two", x, 0, 3, 175, 1);
    }

    private static void termVByACard() {
        B.term("V", "else by a card: no minute, whenever");
        CardBowl x = owing(CARD, Bounds.at(70, 0, 3, 0, 0), Bounds.at(70, 0, 4, 180, 180), Bounds.at(70, 0, 5, 10, 20));
        for (int day = 0; day < 7; day++) {
            best("DAY " + day, x, day, 6, 70, 1, 2, 3);
        }
        best("sent as well", owing(SENT, Bounds.at(70, 0, 3, 0, 0)), 1, 1, 70, 1);
    }

    private static void termVAllAt180() {
        B.term("V", "all at 180 at the latest");
        best("a card at 180", owing(CARD, Bounds.at(90, 90, 0, 0, 0)), 0, 2, 180, 1);
        best("a card at 181", owing(CARD, Bounds.at(91, 90, 0, 0, 0)), 0, 0, 0);
        best("the second card at 180", owing(CARD, Bounds.at(90, 0, 0, 0, 0), Bounds.at(90, 90, 0, 0, 0)), 0, 4, 180, 1, 2);
        best("the second card at 181", owing(CARD, Bounds.at(90, 0, 0, 0, 0), Bounds.at(90, 91, 0, 0, 0)), 0, 2, 90, 1);
        best("a call over at 180", owing(CALL, Bounds.at(99, 66, 0, 0, 180)), 0, 3, 180, 1);
        best("a call over at 181", owing(CALL, Bounds.at(99, 67, 0, 0, 180)), 0, 0, 0);
        CardBowl x = around(Bounds.at(0, 0, 0, 165, 180), Bounds.at(0, 0, 0, 0, 0), Bounds.at(1, 0, 0, 0, 0));
        owe(x, 1, CALL);
        owe(x, 2, CARD);
        best("a card next door behind a call that is over at 180", x, 0, 5, 180, 1, 2);
        owe(x, 3, CARD);
        best("one a minute off goes ahead", x, 0, 7, 180, 2, 3, 1);
    }

    private static void termVWorth() {
        B.term("V", "the greatest WORTH: of each HOUSE seen the sum of KIND + 1 of all it owes there");
        for (int kind = 0; kind < 4; kind++) {
            B.due("KIND " + kind, owing(kind, Bounds.at(0, 0, 0, 0, 180)).worth(0, 0), kind + 1);
        }
        // two far ones apart from each other: only one can be seen
        CardBowl x = around(Bounds.at(99, 0, 0, 0, 0), Bounds.at(0, 99, 0, 0, 0));
        owe(x, 1, SENT);
        owe(x, 2, CARD);
        best("2 ahead of 1", x, 0, 2, 99, 2);
        owe(x, 1, CARD);
        best("3 ahead of 2", x, 0, 3, 99, 1);
        CardBowl ten = around(Bounds.at(0, 0, 0, 0, 180));
        for (int kind = 0; kind < 4; kind++) {
            owe(ten, 1, kind);
        }
        best("all four", ten, 0, 10, 15, 1);
    }

    private static void termVOverFirst() {
        B.term("V", "of like ones that which is over first");
        best("99 ahead of 98: the second", owing(CARD, Bounds.at(99, 0, 0, 0, 0), Bounds.at(0, 98, 0, 0, 0)), 0, 2, 98, 2);
        best("98 ahead of 99: the first", owing(CARD, Bounds.at(98, 0, 0, 0, 0), Bounds.at(0, 99, 0, 0, 0)), 0, 2, 98, 1);
        // 1 then 2: 10 and 30 back; 2 then 1: 20 and 30 back
        best("of two orders the shorter", owing(CARD, Bounds.at(20, 0, 0, 0, 0), Bounds.at(0, 10, 0, 0, 0)), 0, 4, 40, 2, 1);
    }

    private static void termVLeastBits() {
        B.term("V", "of like ones the least HOUSES as bits");
        best("1 or 2", owing(CARD, Bounds.at(99, 0, 0, 0, 0), Bounds.at(0, 99, 0, 0, 0)), 0, 2, 99, 1);
        // 2 and 3 are the bits 12, 1 and 4 the bits 18: the least, though 1 is not in it
        best("2 and 3, or 1 and 4", owing(CARD, Bounds.at(0, 99, 0, 0, 0), Bounds.at(99, 0, 0, 0, 0), Bounds.at(99, 0, 0, 0, 0),
            Bounds.at(0, 99, 0, 0, 0)), 0, 4, 99, 2, 3);
        best("1 and 3, or 2 and 4", owing(CARD, Bounds.at(0, 99, 0, 0, 0), Bounds.at(99, 0, 0, 0, 0), Bounds.at(0, 99, 0, 0, 0),
            Bounds.at(99, 0, 0, 0, 0)), 0, 4, 99, 1, 3);
    }

    private static void termVLeastRow() {
        B.term("V", "of like ones the row of the least first HOUSE, then second, ..");
        best("all next door", owing(CARD, Bounds.at(0, 0, 0, 0, 0), Bounds.at(0, 0, 0, 0, 0), Bounds.at(0, 0, 0, 0, 0)), 0, 6, 0, 1, 2, 3);
        best("two on one place", owing(CARD, Bounds.at(9, 0, 0, 0, 0), Bounds.at(5, 0, 0, 0, 0), Bounds.at(5, 0, 0, 0, 0)), 0, 6, 9, 2, 3, 1);
        best("then the least of two on one place", owing(CARD, Bounds.at(9, 0, 0, 0, 0), Bounds.at(5, 0, 0, 0, 0), Bounds.at(9, 0, 0, 0, 0)), 0, 6, 9, 2, 1, 3);
        // whatever is seen ahead of the call on 4, it is over at 75
        CardBowl x = around(Bounds.at(30, 0, 0, 0, 0), Bounds.at(1, 0, 0, 0, 0), Bounds.at(2, 0, 0, 0, 0), Bounds.at(0, 0, 0, 60, 75));
        for (int b = 1; b <= 3; b++) {
            owe(x, b, CARD);
        }
        owe(x, 4, CALL);
        best("there and back by 60", x, 0, 9, 75, 1, 3, 2, 4);
        CardBowl y = around(Bounds.at(31, 0, 0, 0, 0), Bounds.at(1, 0, 0, 0, 0), Bounds.at(0, 0, 0, 60, 75));
        owe(y, 1, CARD);
        owe(y, 2, CARD);
        owe(y, 3, CALL);
        CardBowl v = around(Bounds.at(1, 0, 0, 0, 0), Bounds.at(0, 0, 0, 0, 15));
        owe(v, 1, CARD);
        owe(v, 2, CALL);
        best("a card a minute off, a call that must begin at 0", v, 0, 5, 16, 2, 1);
        CardBowl z = around(Bounds.at(30, 0, 0, 0, 0), Bounds.at(0, 0, 0, 60, 75));
        owe(z, 1, CARD);
        owe(z, 2, CALL);
        best("there and back at 60, the call from 60", z, 0, 5, 75, 1, 2);
        CardBowl w = around(Bounds.at(30, 0, 0, 0, 0), Bounds.at(0, 0, 0, 59, 74));
        owe(w, 1, CARD);
        owe(w, 2, CALL);
        best("there and back at 60, the call from 59", w, 0, 5, 104, 2, 1);
        best("31 and back is 62: 1 goes behind the call; 2 first, though it could be seen on the way", y, 0, 7, 106, 2, 3, 1);
    }

    private static void termVFirstTen() {
        B.term("V", "of the first ten HOUSES, by numbers, to which it owes");
        String[] houses = new String[15];
        for (int i = 0; i < 15; i++) {
            houses[i] = Bounds.at(0, 0, 0, 0, 0);
        }
        CardBowl x = around(houses);
        for (int b = 15; b >= 6; b--) {
            owe(x, b, CARD);
        }
        best("ten, the last ones", x, 0, 20, 0, 6, 7, 8, 9, 10, 11, 12, 13, 14, 15);
        owe(x, 5, CARD);
        best("eleven: 15 is left out", x, 0, 20, 0, 5, 6, 7, 8, 9, 10, 11, 12, 13, 14);
        owe(x, 15, SENT);
        best("though it is worth more now", x, 0, 20, 0, 5, 6, 7, 8, 9, 10, 11, 12, 13, 14);
        owe(x, 3, CALL);
        best("one that can't be seen takes a place, too", x, 1, 18, 0, 5, 6, 7, 8, 9, 10, 11, 12, 13);
        x.does(0, 5, 1);
        best("paid: one moves up", x, 1, 18, 0, 6, 7, 8, 9, 10, 11, 12, 13, 14);
    }

    private static void promise17Worth() {
        B.promise(17, "on a DAY (today .. 399). -2: there are none such");
        CardBowl x = owing(CARD, Bounds.at(1, 0, 0, 0, 180));
        x.days(3);
        B.due("today", x.worth(0, 3), 2);
        B.due("yesterday", x.worth(0, 2), -2);
        B.due("DAY 399", x.worth(0, 399), 2);
        B.due("DAY 400", x.worth(0, 400), -2);
        B.due("the last house", x.worth(1, 3), 0);
        B.due("one behind it", x.worth(2, 3), -2);
        for (int none : Bounds.FAR_OFF) {
            B.due("worth(" + none + ", 3)", x.worth(none, 3), -2);
            B.due("worth(0, " + none + ")", x.worth(0, none), -2);
        }
        CardBowl full = Check.with(Bounds.houses(16) + Bounds.know(1, 0, 14, 15) + CODE);
        owe(full, 1, CARD);
        full.does(0, 1, 0);
        full.does(14, 15, 1);
        for (int a = 0; a < 16; a++) {
            B.due("of sixteen, " + a, full.worth(a, 0), a == 0 ? 2 : a == 1 ? 3 : a == 15 ? 2 : 0);
        }
        B.due("the one of house 15", full.round(15, 0, 0), 14);
        B.due("house 16", full.worth(16, 0), -2);
        Bounds.go(x, 399);
        B.due("today is 399", x.worth(0, 399), 2);
        B.due("398 then", x.worth(0, 398), -2);
    }

    /** No answer may lean on what was asked ahead of it. */
    private static void promise17AskedInTurn() {
        B.promise(17, "WORTH of the BEST ROUND (V) of HOUSE a on a DAY");
        CardBowl x = owing(CALL, Bounds.at(1, 0, 0, 0, 180), Bounds.at(2, 0, 1, 0, 180));
        x.does(0, 1, 1);
        for (int day = 0; day < 3; day++) {
            B.due("of 1, DAY " + day, x.worth(1, day), 2);
            B.due("fewest of 0", x.fewest(0), 2);
            B.due("of 0, DAY " + day, x.worth(0, day), day < 2 ? 3 : 0);
            B.due("fewest of 1", x.fewest(1), 1);
            B.due("of 0 on the DAY behind", x.worth(0, day + 1), day == 0 ? 3 : 0);
            B.due("of 2, DAY " + day, x.worth(2, day), 0);
        }
        x.does(0, 1, 2);
        B.due("paid between", x.worth(0, 0), 0);
        x.keep(0);
        B.due("one is left", x.worth(0, 1), 3);
        x.does(0, 2, 3);
        x.days(1);
        x.does(0, 2, 3);
        B.due("none is left", x.worth(0, 1), 0);
        x.back(0);
        B.due("as IMAGE 0 has it", x.worth(0, 1), 3);
    }

    private static void promise18Round() {
        B.promise(18, "The i-th HOUSE of it (from 0); NONE: not so many. -2 likewise");
        CardBowl x = owing(CARD, Bounds.at(1, 0, 0, 0, 180), Bounds.at(2, 0, 0, 0, 180));
        x.days(3);
        B.due("the first", x.round(0, 3, 0), 1);
        B.due("the last", x.round(0, 3, 1), 2);
        B.due("one behind it", x.round(0, 3, 2), -1);
        B.due("nobody is seen", x.round(1, 3, 0), -1);
        B.due("yesterday", x.round(0, 2, 0), -2);
        B.due("DAY 399", x.round(0, 399, 0), 1);
        B.due("DAY 400", x.round(0, 400, 0), -2);
        B.due("house 2", x.round(2, 3, 0), -1);
        B.due("house 3", x.round(3, 3, 0), -2);
        for (int none : Bounds.FAR_OFF) {
            B.due("round(" + none + ", 3, 0)", x.round(none, 3, 0), -2);
            B.due("round(0, " + none + ", 0)", x.round(0, none, 0), -2);
            B.due("round(0, 3, " + none + ")", x.round(0, 3, none), -1);
        }
        B.due("-2 ahead of NONE", x.round(3, 3, 9), -2);
    }

    private static void promise19Over() {
        B.promise(19, "The minute at which it is over; 0: nobody is seen. -2 likewise");
        CardBowl x = owing(CARD, Bounds.at(90, 90, 0, 0, 180));
        x.days(3);
        B.due("180", x.over(0, 3), 180);
        B.due("nobody is seen", x.over(1, 3), 0);
        B.due("yesterday", x.over(0, 2), -2);
        B.due("DAY 399", x.over(0, 399), 180);
        B.due("DAY 400", x.over(0, 400), -2);
        B.due("house 2", x.over(2, 3), -2);
        for (int none : Bounds.FAR_OFF) {
            B.due("over(" + none + ", 3)", x.over(none, 3), -2);
            B.due("over(0, " + none + ")", x.over(0, none), -2);
        }
    }

    private static int may(CardBowl x, int day, long... row) {
        Check.row(x, 1, row);
        return x.may(1, 0, day);
    }

    private static void promise20May() {
        B.promise(20, "1 if the HOUSES of a SLOT's row can be seen in that order in a ROUND of HOUSE a on a DAY (V)");
        CardBowl x = around(Bounds.at(90, 0, 0, 0, 0), Bounds.at(90, 90, 0, 0, 0), Bounds.at(90, 91, 0, 0, 0), Bounds.at(0, 0, 3, 20, 35),
            Bounds.at(0, 0, 3, 20, 35), Bounds.at(0, 0, 3, 20, 50), Bounds.at(20, 0, 3, 0, 35), Bounds.at(21, 0, 3, 0, 35));
        for (int b = 1; b <= 3; b++) {
            owe(x, b, CARD);
        }
        for (int b = 4; b <= 8; b++) {
            owe(x, b, CALL);
        }
        B.due("nobody", may(x, 0), 1);
        B.due("180", may(x, 0, 1, 2), 1);
        B.due("181", may(x, 0, 1, 3), 0);
        B.due("in another order", may(x, 0, 2, 1), 0);
        B.due("on its weekday", may(x, 3, 4), 1);
        B.due("the day ahead", may(x, 2, 4), 0);
        B.due("the day behind", may(x, 4, 4), 0);
        B.due("a week on", may(x, 10, 4), 1);
        B.due("35 to 50 behind 20 to 35", may(x, 3, 4, 6), 1);
        B.due("the other way", may(x, 3, 6, 4), 0);
        B.due("both from 20 to 35", may(x, 3, 4, 5), 0);
        B.due("there at 20, till 35", may(x, 3, 7), 1);
        B.due("there at 21, till 36", may(x, 3, 8), 0);
    }

    private static void promise20Rows() {
        B.promise(20, "0: not (or one is none such, twice)");
        CardBowl x = around(Bounds.at(0, 0, 0, 0, 0), Bounds.at(0, 0, 0, 0, 0), Bounds.at(0, 0, 0, 0, 0));
        owe(x, 1, CARD);
        owe(x, 2, CARD);
        B.due("1, 2", may(x, 0, 1, 2), 1);
        B.due("1, 1", may(x, 0, 1, 1), 0);
        B.due("1, 2, 1", may(x, 0, 1, 2, 1), 0);
        B.due("3, to which it owes nothing", may(x, 0, 3), 0);
        B.due("1, 3", may(x, 0, 1, 3), 0);
        B.due("itself", may(x, 0, 0), 0);
        long[] none = {4, -1, 15, 16, 32, 33, 255, 256, 257, 1L << 32, (1L << 32) + 1, Long.MIN_VALUE, Long.MIN_VALUE + 1, Long.MAX_VALUE};
        for (long n : none) {
            B.due("none such: " + n, may(x, 0, n), 0);
            B.due("behind one that is: " + n, may(x, 0, 1, n), 0);
        }
        x.row(1, 0, 60);
        B.due("sixty zeros", x.may(1, 0, 0), 0);
        String[] houses = new String[15];
        for (int i = 0; i < 15; i++) {
            houses[i] = Bounds.at(0, 0, 0, 0, 0);
        }
        CardBowl y = around(houses);
        for (int b = 1; b <= 15; b++) {
            owe(y, b, CARD);
        }
        B.due("fifteen", may(y, 0, 15, 14, 13, 12, 11, 10, 9, 8, 7, 6, 5, 4, 3, 2, 1), 1);
        B.due("and one twice", may(y, 0, 15, 14, 13, 12, 11, 10, 9, 8, 7, 6, 5, 4, 3, 2, 1, 15), 0);
    }

    private static void promise20Refused() {
        B.promise(20, "-2: there are none such; -6: the SLOT has nothing");
        CardBowl x = owing(CARD, Bounds.at(1, 0, 0, 0, 180));
        x.days(3);
        for (int slot = 0; slot < 4; slot++) {
            B.due("nothing in " + slot, x.may(slot, 0, 3), -6);
            B.due("-2 ahead of -6, house", x.may(slot, 2, 3), -2);
            B.due("-2 ahead of -6, DAY", x.may(slot, 0, 2), -2);
            x.row(slot, 3, 1);
            B.due("a row in " + slot, x.may(slot, 0, 3), 0);
            x.write(slot, 0, 1);
            B.due("house 1 in " + slot, x.may(slot, 0, 3), 1);
        }
        B.due("slot 4", x.may(4, 0, 3), -2);
        B.due("house 1 owes nothing", x.may(0, 1, 3), 0);
        B.due("house 2", x.may(0, 2, 3), -2);
        B.due("yesterday", x.may(0, 0, 2), -2);
        B.due("DAY 399", x.may(0, 0, 399), 1);
        B.due("DAY 400", x.may(0, 0, 400), -2);
        for (int none : Bounds.FAR_OFF) {
            B.due("may(" + none + ", 0, 3)", x.may(none, 0, 3), -2);
            B.due("may(0, " + none + ", 3)", x.may(0, none, 3), -2);
            B.due("may(0, 0, " + none + ")", x.may(0, 0, none), -2);
        }
        x.does(0, 1, 1);
        Check.row(x, 2, 0);
        B.due("house 1 on house 0", x.may(2, 1, 3), 1);
        Check.row(x, 2, 0, 0);
        B.due("house 1 on house 0, twice", x.may(2, 1, 3), 0);
    }

    private static void promise21Fewest() {
        B.promise(21, "The fewest DAYS (today and the six behind it) on which HOUSE a goes ROUNDS");
        CardBowl week = around(Bounds.at(0, 0, 0, 0, 180), Bounds.at(0, 0, 1, 0, 180), Bounds.at(0, 0, 2, 0, 180), Bounds.at(0, 0, 3, 0, 180),
            Bounds.at(0, 0, 4, 0, 180), Bounds.at(0, 0, 5, 0, 180), Bounds.at(0, 0, 6, 0, 180));
        B.due("none is owed", week.fewest(0), 0);
        for (int b = 1; b <= 7; b++) {
            owe(week, b, CALL);
            B.due("a weekday more", week.fewest(0), b);
        }
        for (int day = 1; day <= 8; day++) {
            week.days(1);
            B.due("all seven, from DAY " + day, week.fewest(0), 7);
        }
        CardBowl alike = owing(CALL, Bounds.at(0, 0, 0, 20, 35), Bounds.at(0, 0, 0, 20, 35));
        B.due("both on one weekday, one at a time: a second week is not looked at", alike.fewest(0), -1);
        CardBowl room = owing(CALL, Bounds.at(0, 0, 0, 20, 35), Bounds.at(0, 0, 0, 20, 50));
        B.due("one behind the other", room.fewest(0), 1);
        CardBowl cards = owing(CARD, Bounds.at(90, 0, 0, 0, 0), Bounds.at(0, 45, 0, 0, 0));
        B.due("two cards, 180 in all", cards.fewest(0), 1);
        CardBowl more = owing(CARD, Bounds.at(90, 0, 0, 0, 0), Bounds.at(0, 46, 0, 0, 0));
        B.due("two cards, 182 in all", more.fewest(0), 2);
        B.promise(21, "-2: there is none such");
        B.due("fewest(2)", more.fewest(2), 0);
        B.due("fewest(3)", more.fewest(3), -2);
        for (int none : Bounds.FAR_OFF) {
            B.due("fewest(" + none + ")", more.fewest(none), -2);
        }
    }

    private static void promise21DueDays() {
        B.promise(21, "are seen not behind their due DAY; NONE: it can't be");
        for (int weekday = 0; weekday < 7; weekday++) {
            for (int within = 0; within < 8; within++) {
                CardBowl x = under("sent owes call within " + within + ";", Bounds.at(1, 0, weekday, 0, 180));
                x.does(1, 0, 0);
                B.due("home " + Bounds.WEEKDAYS[weekday] + " within " + within, x.fewest(0), within >= weekday ? 1 : -1);
                B.due("lost", x.lost(0), within >= weekday ? 0 : 1);
            }
        }
        CardBowl y = under("card owes card within 2;", Bounds.at(1, 0, 0, 0, 180));
        y.does(1, 0, 1);
        y.days(2);
        B.due("on the due DAY", y.fewest(0), 1);
        y.days(1);
        B.due("the DAY behind it", y.fewest(0), -1);
        CardBowl z = under("sent owes call within 99;", Bounds.at(1, 0, 6, 0, 180), Bounds.at(1, 0, 0, 0, 180));
        Bounds.go(z, 395);
        z.does(1, 0, 0);
        B.due("DAY 398 is a sat", z.fewest(0), 1);
        z.does(2, 0, 0);
        B.due("DAY 399 is a sun", z.fewest(0), 2);
        Bounds.go(z, 399);
        B.due("the sat is over", z.fewest(0), -1);
        B.due("and lost", z.lost(0), 1);
        // a card and a call to one house: the card by DAY 3, the call on a wed at the earliest
        CardBowl w = under("card owes card within 3;sent owes call within 9;", Bounds.at(1, 0, 3, 0, 180));
        w.does(1, 0, 1);
        w.does(1, 0, 0);
        B.due("a wed is in time for both", w.fewest(0), 1);
        CardBowl once = under("card owes card within 3;sent owes call within 9;", Bounds.at(0, 0, 0, 20, 35), Bounds.at(0, 0, 0, 35, 50));
        for (int b = 1; b <= 2; b++) {
            once.does(b, 0, 1);
            once.does(b, 0, 0);
        }
        B.due("a house is seen once for all", once.fewest(0), 1);
        once.does(0, 1, 2);
        once.does(0, 2, 1);
        once.does(2, 0, 1);
        B.due("the other one, asked anew", once.fewest(0), 1);
        B.due("none is lost", once.lost(0), 0);
        CardBowl v = under("card owes card within 2;sent owes call within 9;", Bounds.at(1, 0, 3, 0, 180));
        v.does(1, 0, 1);
        v.does(1, 0, 0);
        B.due("a wed is behind the card's", v.fewest(0), -1);
        B.due("the card is lost", v.lost(0), 1);
        CardBowl s = under("card owes card within 1;sent owes call within 9;", Bounds.at(0, 0, 1, 165, 180), Bounds.at(90, 90, 0, 0, 0));
        s.does(1, 0, 0);
        s.does(2, 0, 1);
        B.due("a call on DAY 1, a card by DAY 1, not both on one", s.fewest(0), 2);
        s.days(1);
        B.due("on DAY 1 it can't be any more", s.fewest(0), -1);
        B.due("though each alone can be", s.lost(0), 0);
        // one a day: the one that is due today first, whichever it is
        String[] far = {Bounds.at(90, 0, 0, 0, 0), Bounds.at(0, 90, 0, 0, 0)};
        for (int first = 1; first <= 2; first++) {
            CardBowl u = under("card owes card within 0;sent owes card within 1;", far);
            u.does(first, 0, 1);
            u.does(3 - first, 0, 0);
            B.due("today and tomorrow", u.fewest(0), 2);
            CardBowl t = under("card owes card within 0;", far);
            t.does(first, 0, 1);
            t.does(3 - first, 0, 1);
            B.due("both today", t.fewest(0), -1);
            B.due("each alone can be", t.lost(0), 0);
        }
    }

    private static void promise21FirstTen() {
        B.promise(21, "all its DEBTS (the first ten, open)");
        String[] houses = new String[11];
        for (int i = 0; i < 11; i++) {
            houses[i] = Bounds.at(0, 0, 0, 0, 0);
        }
        houses[9] = Bounds.at(99, 99, 0, 0, 0);
        CardBowl tenth = around(houses);
        for (int b = 1; b <= 9; b++) {
            owe(tenth, b, CARD);
        }
        B.due("nine", tenth.fewest(0), 1);
        owe(tenth, 10, CARD);
        B.due("the tenth can't be seen", tenth.fewest(0), -1);
        CardBowl eleventh = around(houses);
        for (int b = 1; b <= 9; b++) {
            owe(eleventh, b, CARD);
        }
        owe(eleventh, 11, CARD);
        B.due("ten", eleventh.fewest(0), 1);
        owe(eleventh, 10, CARD);
        B.due("the eleventh can't be seen, and is not looked at", eleventh.fewest(0), 1);
        eleventh.does(0, 5, 1);
        B.due("it is the tenth now", eleventh.fewest(0), -1);
    }

    private static void promise22Lost() {
        B.promise(22, "that can't be seen in time by any such ROUND alone. -2 likewise");
        CardBowl x = around(Bounds.at(90, 90, 0, 0, 0), Bounds.at(91, 90, 0, 0, 0), Bounds.at(0, 0, 0, 0, 15), Bounds.at(0, 0, 0, 0, 14),
            Bounds.at(20, 0, 0, 0, 35), Bounds.at(21, 0, 0, 0, 35));
        B.due("none is owed", x.lost(0), 0);
        owe(x, 1, CARD);
        B.due("a card at 180", x.lost(0), 0);
        owe(x, 2, CARD);
        B.due("a card at 181", x.lost(0), 2);
        owe(x, 3, CALL);
        B.due("15 minutes at home", x.lost(0), 2);
        owe(x, 4, CALL);
        B.due("14 minutes at home", x.lost(0), 10);
        owe(x, 5, CALL);
        B.due("there at 20, till 35", x.lost(0), 10);
        owe(x, 6, CALL);
        B.due("there at 21, till 36", x.lost(0), 42);
        CardBowl alike = owing(CALL, Bounds.at(0, 0, 0, 20, 35), Bounds.at(0, 0, 0, 20, 35));
        B.due("each alone can be", alike.lost(0), 0);
        B.due("house 6", x.lost(6), 0);
        B.due("house 7", x.lost(7), -2);
        for (int none : Bounds.FAR_OFF) {
            B.due("lost(" + none + ")", x.lost(none), -2);
        }
    }

    private static void promise22FirstTen() {
        B.promise(22, "DEBTS of HOUSE a (the first ten, open, as bits)");
        String[] houses = new String[11];
        for (int i = 0; i < 11; i++) {
            houses[i] = Bounds.at(99, 99, 0, 0, 0);
        }
        CardBowl x = around(houses);
        for (int b = 11; b >= 1; b--) {
            owe(x, b, CARD);
            int debts = 12 - b;
            B.due("so many of them: " + debts, x.lost(0), (1 << Math.min(10, debts)) - 1);
        }
        x.does(0, 1, 1);
        x.does(0, 2, 1);
        B.due("nine are left", x.lost(0), 511);
    }
}
