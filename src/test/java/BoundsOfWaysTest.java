/** Term VI and promises 23 to 29, at their bounds: the last that is within, the first that is not. */
public final class BoundsOfWaysTest {
    private static final Bounds B = new Bounds("BoundsOfWaysTest");

    public static void main(String[] args) {
        termVIIntroducers();
        termVIThereToday();
        termVIKnowsThen();
        termVINoneElse();
        termVIWhateverDays();
        termVIPath();
        termVIDropKnows();
        termVIDropHangsTogether();
        termVIDropLeastRank();
        termVIRingsTwoAtLeast();
        termVIRingsNoneOnAnyOther();
        termVIRingsSmallest();
        promise23Soon();
        promise23AskedInTurn();
        promise24Path();
        promise25Reach();
        promise26Drop();
        promise27Tie();
        promise28Rings();
        promise29Ring();
        B.finish("Term VI", "promise 23", "promise 24", "promise 25", "promise 26", "promise 27", "promise 28", "promise 29");
    }

    private static void way(String what, CardBowl x, int a, int b, int... calls) {
        B.due(what + ": soon", x.soon(a, b), calls.length);
        for (int i = 0; i < calls.length; i++) {
            B.due(what + ": path " + i, x.path(a, b, i), calls[i]);
        }
        B.due(what + ": no more", x.path(a, b, calls.length), -1);
    }

    private static void never(String what, CardBowl x, int a, int b) {
        B.due(what + ": soon", x.soon(a, b), -1);
        B.due(what + ": path", x.path(a, b, 0), -1);
    }

    /** Houses 0 and 1 with n between them whom both know but for one that 1 does not know. */
    private static String between(int n) {
        StringBuilder b = new StringBuilder(Bounds.houses(n + 2));
        for (int c = 2; c < n + 2; c++) {
            b.append(Bounds.know(0, c));
            if (c > 2) {
                b.append(Bounds.know(1, c));
            }
        }
        return b.toString();
    }

    private static void termVIIntroducers() {
        B.term("VI", "that are known to as many whom it knows then as the introducers, or more");
        for (int n = 1; n <= 9; n++) {
            CardBowl x = Check.with(between(n) + "introduce " + n + ";");
            never("one fewer than " + n, x, 0, 1);
            x.meet(1, 2);
            way("as many as " + n, x, 0, 1, 1);
            way("the other way", x, 1, 0, 0);
        }
        CardBowl usual = Check.with(between(3));
        never("two of the usual three", usual, 0, 1);
        usual.meet(1, 2);
        way("the usual three", usual, 0, 1, 1);
        CardBowl more = Check.with(between(4) + Bounds.know(1, 2));
        way("one more than three", more, 0, 1, 1);
    }

    private static void termVIThereToday() {
        B.term("VI", "HOUSES (there today)");
        CardBowl x = Check.with(Bounds.houses(2) + Bounds.with(0, "came 3") + Bounds.houses(1) + Bounds.know(0, 1, 1, 2, 2, 3) + "introduce 1;");
        x.days(2);
        never("the day ahead, to it", x, 0, 2);
        never("the day ahead, by it", x, 0, 3);
        x.days(1);
        way("the day itself, to it", x, 0, 2, 2);
        way("the day itself, by it", x, 0, 3, 2, 3);
        CardBowl y = Check.with(Bounds.houses(2) + Bounds.with(0, "came 399") + Bounds.know(0, 1, 1, 2) + "introduce 1;");
        Bounds.go(y, 398);
        never("DAY 398", y, 0, 2);
        y.days(1);
        way("DAY 399", y, 0, 2, 2);
    }

    private static void termVIKnowsThen() {
        B.term("VI", "and knows them from then on");
        // 5 is known to 3 and 4 alone: both have to be called on ahead of it
        CardBowl x = Check.with(Bounds.houses(6) + Bounds.know(0, 1, 0, 2, 1, 3, 2, 3, 1, 4, 3, 4, 3, 5, 4, 5) + "introduce 2;");
        way("3 opens 4, both open 5", x, 0, 5, 3, 4, 5);
        way("3 alone opens 4", x, 0, 4, 3, 4);
        CardBowl y = Check.with(Bounds.houses(6) + Bounds.know(0, 1, 0, 2, 1, 3, 2, 3, 1, 4, 3, 5, 4, 5) + "introduce 2;");
        never("without 3 and 4 knowing each other", y, 0, 5);
    }

    private static void termVINoneElse() {
        B.term("VI", "(none else come to know each other; whatever days are at home)");
        CardBowl x = Check.with(Bounds.houses(5) + Bounds.know(0, 1, 1, 2, 2, 3, 3, 4) + "introduce 1;");
        way("a chain", x, 0, 4, 2, 3, 4);
        B.due("nobody came to know anybody by it", x.known(0, 2) + x.known(0, 3) + x.known(0, 4), 0);
        B.due("nothing is DONE by it", x.count(5), 0);
    }

    private static void termVIWhateverDays() {
        B.term("VI", "whatever days are at home");
        for (int weekday = 0; weekday < 7; weekday++) {
            CardBowl x = Check.with(Bounds.with(0, "bride 99") + Bounds.houses(1) + Bounds.home(weekday, 0, 0) + Bounds.know(0, 1, 1, 2) + "introduce 1;");
            way("home " + Bounds.WEEKDAYS[weekday], x, 0, 2, 2);
        }
    }

    private static void termVIPath() {
        B.term("VI", "PATH: the fewest such CALLS, the last on b; of several the least first HOUSE, then second, ...");
        String two = Bounds.houses(6) + Bounds.know(0, 1, 1, 2, 1, 3, 2, 5, 3, 5, 1, 4);
        way("2 or 3", Check.with(two + "introduce 1;"), 0, 5, 2, 5);
        // by 2 it takes three calls, by 4 two
        way("the fewest ahead of the least", Check.with(Bounds.houses(6) + Bounds.know(0, 1, 1, 2, 2, 3, 3, 5, 1, 4, 4, 5) + "introduce 1;"), 0, 5, 4, 5);
        // 3 and 4 are wanted in any order
        way("of two orders the least", Check.with(Bounds.houses(6) + Bounds.know(0, 1, 0, 2, 1, 3, 2, 3, 1, 4, 2, 4, 3, 5, 4, 5) + "introduce 2;"), 0, 5, 3, 4, 5);
        // 4 opens 3: 4 has to go first
        way("an order that must be", Check.with(Bounds.houses(6) + Bounds.know(0, 1, 0, 2, 1, 4, 2, 4, 1, 3, 4, 3, 3, 5, 4, 5) + "introduce 2;"), 0, 5, 4, 3, 5);
        // the same first house, then 4 ahead of 5
        // 0 is one of those on the way
        way("by 0", Check.with(Bounds.houses(5) + Bounds.know(4, 1, 1, 0, 0, 2, 2, 3) + "introduce 1;"), 4, 3, 0, 2, 3);
        // 3 is known to all three whom 0 knows
        way("by one known to more", Check.with(Bounds.houses(6) + Bounds.know(0, 1, 0, 2, 0, 4, 1, 3, 2, 3, 4, 3, 1, 5, 3, 5) + "introduce 2;"), 0, 5, 3, 5);
        way("the least second", Check.with(Bounds.houses(7) + Bounds.know(0, 1, 1, 2, 2, 4, 2, 5, 4, 6, 5, 6) + "introduce 1;"), 0, 6, 2, 4, 6);
    }

    private static void termVIDropKnows() {
        B.term("VI", "of HOUSES that a knows, to which it owes nothing");
        String text = Bounds.houses(3) + Bounds.know(0, 1, 0, 2, 1, 2) + Bounds.LIKE_FOR_LIKE;
        for (int kind = 0; kind < 4; kind++) {
            CardBowl x = Check.with(text);
            B.due("owes nothing", x.drop(0), 1);
            x.does(1, 0, kind);
            B.due("owes 1 something", x.drop(0), 2);
            x.does(2, 0, kind);
            B.due("owes both", x.drop(0), -1);
            B.due("what 0 owes is nothing to 1", x.drop(1), 0);
            x.does(0, 1, kind);
            B.due("paid; now 1 owes 0", x.drop(0), 1);
            B.due("1 owes 0", x.drop(1), 2);
        }
        CardBowl y = Check.with(Bounds.houses(4) + Bounds.know(0, 2, 0, 3, 2, 3, 1, 2, 1, 3));
        B.due("1 is not known to 0", y.drop(0), 2);
    }

    private static void termVIDropHangsTogether() {
        B.term("VI", "without whom (they did not know each other) as many hang together with a as now");
        CardBowl x = Check.with(Bounds.houses(4) + Bounds.know(0, 1, 1, 2, 2, 3));
        for (int a = 0; a < 4; a++) {
            B.due("in a chain nobody can be dropped, by " + a, x.drop(a), -1);
        }
        x.meet(3, 0);
        for (int a = 0; a < 4; a++) {
            B.due("in a circle anybody, by " + a, x.drop(a), a % 2 == 0 ? 1 : 0);
        }
        CardBowl alone = Check.with(Bounds.houses(1));
        B.due("one alone", alone.drop(0), -1);
        CardBowl pair = Check.with(Bounds.houses(2) + Bounds.know(0, 1));
        B.due("of two", pair.drop(0), -1);
        CardBowl apart = Check.with(Bounds.houses(5) + Bounds.know(0, 1, 1, 2, 2, 0, 3, 4));
        B.due("others do not matter", apart.drop(0), 1);
        B.due("the others", apart.drop(3), -1);
    }

    private static void termVIDropLeastRank() {
        B.term("VI", "the least rank, of several the first");
        String links = Bounds.know(0, 1, 0, 2, 0, 3, 1, 2, 2, 3);
        B.due("the last", Check.with(Bounds.ranked(0) + Bounds.ranked(9) + Bounds.ranked(8) + Bounds.ranked(7) + links).drop(0), 3);
        B.due("the first of all alike", Check.with(Bounds.ranked(0) + Bounds.ranked(9) + Bounds.ranked(9) + Bounds.ranked(9) + links).drop(0), 1);
        B.due("the first of two alike", Check.with(Bounds.ranked(0) + Bounds.ranked(9) + Bounds.ranked(5) + Bounds.ranked(5) + links).drop(0), 2);
        B.due("rank 0", Check.with(Bounds.ranked(0) + Bounds.ranked(1) + Bounds.ranked(0) + Bounds.ranked(1) + links).drop(0), 2);
    }

    private static CardBowl circle(int houses) {
        StringBuilder text = new StringBuilder(Bounds.houses(houses));
        for (int i = 0; i < houses; i++) {
            text.append(Bounds.know(i, (i + 1) % houses));
        }
        return Check.with(text.toString());
    }

    private static void calls(CardBowl x, int... pairs) {
        for (int i = 0; i + 1 < pairs.length; i += 2) {
            x.meet(pairs[i], pairs[i + 1]);
            B.due(pairs[i] + " calls on " + pairs[i + 1], x.does(pairs[i], pairs[i + 1], 2), 0);
        }
    }

    private static void rings(CardBowl x, int... bits) {
        int found = 0;
        for (int a = 0; a < bits.length; a++) {
            B.due("ring(" + a + ")", x.ring(a), bits[a]);
            found += bits[a] != 0 && Integer.numberOfTrailingZeros(bits[a]) == a ? 1 : 0;
        }
        B.due("rings()", x.rings(), found);
    }

    private static void termVIRingsTwoAtLeast() {
        B.term("VI", "sets of HOUSES, two at least, the smallest of which each HOUSE called (or dined) on another of them");
        CardBowl x = Check.with(Bounds.houses(3) + Bounds.know(0, 1, 1, 2));
        rings(x, 0, 0, 0);
        x.does(0, 1, 2);
        rings(x, 0, 0, 0);
        x.does(1, 0, 0);
        x.does(1, 0, 1);
        x.meet(1, 0);
        rings(x, 0, 0, 0);
        x.does(1, 0, 2);
        rings(x, 3, 3, 0);
        CardBowl w = Check.with(Bounds.houses(3) + Bounds.know(0, 1, 1, 2));
        w.does(1, 0, 2);
        w.does(2, 1, 2);
        rings(w, 0, 0, 0);
        CardBowl y = Check.with(Bounds.houses(2) + Bounds.know(0, 1));
        y.does(0, 1, 3);
        rings(y, 0, 0);
        y.does(1, 0, 3);
        rings(y, 3, 3);
        CardBowl all = circle(16);
        for (int a = 0; a < 15; a++) {
            all.does(a, a + 1, 2);
        }
        B.due("sixteen, one of whom never called", all.rings(), 0);
        all.does(15, 0, 3);
        B.due("sixteen", all.rings(), 1);
        B.due("ring(15)", all.ring(15), 65535);
        B.due("ring(0)", all.ring(0), 65535);
    }

    private static void termVIRingsNoneOnAnyOther() {
        B.term("VI", "and none on any other, as DONE");
        CardBowl x = Check.with(Bounds.houses(4));
        calls(x, 0, 1, 1, 0);
        rings(x, 3, 3, 0, 0);
        calls(x, 2, 0);
        rings(x, 3, 3, 0, 0);
        x.meet(1, 3);
        x.does(1, 3, 1);
        rings(x, 3, 3, 0, 0);
        calls(x, 1, 3);
        rings(x, 0, 0, 0, 0);
        calls(x, 3, 0);
        rings(x, 11, 11, 0, 11);
    }

    private static void termVIRingsSmallest() {
        B.term("VI", "none of which has a smaller one within");
        CardBowl x = Check.with(Bounds.houses(6));
        calls(x, 0, 1, 1, 0, 2, 3, 3, 2);
        rings(x, 3, 3, 12, 12, 0, 0);
        calls(x, 4, 0, 0, 1, 5, 4);
        rings(x, 3, 3, 12, 12, 0, 0);
        calls(x, 4, 5);
        rings(x, 3, 3, 12, 12, 0, 0);
        calls(x, 0, 2);
        rings(x, 0, 0, 12, 12, 0, 0);
        calls(x, 3, 1);
        rings(x, 15, 15, 15, 15, 0, 0);
        calls(x, 1, 5);
        rings(x, 63, 63, 63, 63, 63, 63);
    }

    private static void promise23Soon() {
        B.promise(23, "0: it does; NONE: never. -2: there are none such, or one and the same");
        CardBowl x = Check.with(Bounds.houses(4) + Bounds.know(0, 1, 1, 2) + "introduce 1;");
        B.due("it does", x.soon(0, 1), 0);
        B.due("one call", x.soon(0, 2), 1);
        B.due("never", x.soon(0, 3), -1);
        B.due("never, the other way", x.soon(3, 0), -1);
        B.due("one and the same", x.soon(3, 3), -2);
        B.due("soon(0, 4)", x.soon(0, 4), -2);
        B.due("soon(4, 0)", x.soon(4, 0), -2);
        for (int none : Bounds.FAR_OFF) {
            B.due("soon(" + none + ", 0)", x.soon(none, 0), -2);
            B.due("soon(0, " + none + ")", x.soon(0, none), -2);
        }
        x.meet(2, 3);
        B.due("behind a meeting", x.soon(0, 3), 2);
        x.meet(0, 3);
        B.due("behind another one", x.soon(0, 3), 0);
    }

    /** No answer may lean on what was asked ahead of it. */
    private static void promise23AskedInTurn() {
        B.promise(23, "How many CALLS it takes at least till HOUSE a knows HOUSE b (VI)");
        CardBowl x = Check.with(Bounds.houses(7) + Bounds.know(0, 1, 1, 2, 2, 3, 3, 4, 4, 5) + "introduce 1;");
        for (int a = 0; a < 6; a++) {
            for (int b = 0; b < 6; b++) {
                B.due("soon(" + a + ", " + b + ")", x.soon(a, b), a == b ? -2 : Math.abs(a - b) - 1);
                B.due("to " + b + " from 6", x.soon(6, b), -1);
                B.due("from " + a + " to 6", x.path(a, 6, 0), -1);
                B.due("the first call", x.path(a, b, 0), a == b ? -2 : Math.abs(a - b) < 2 ? -1 : a < b ? a + 2 : a - 2);
                B.due("the last call", x.path(a, b, Math.max(0, Math.abs(a - b) - 2)), a == b ? -2 : Math.abs(a - b) < 2 ? -1 : b);
            }
        }
        B.due("soon(0, 5)", x.soon(0, 5), 4);
        x.keep(0);
        x.meet(0, 4);
        B.due("they met between", x.soon(0, 5), 1);
        x.back(0);
        B.due("as IMAGE 0 has it", x.soon(0, 5), 4);
    }

    private static void promise24Path() {
        B.promise(24, "The i-th HOUSE that is called on so (VI); NONE: not so many. -2 likewise");
        StringBuilder text = new StringBuilder(Bounds.houses(16) + "introduce 1;");
        for (int i = 0; i < 15; i++) {
            text.append(Bounds.know(i, i + 1));
        }
        CardBowl x = Check.with(text.toString());
        B.due("fourteen calls", x.soon(0, 15), 14);
        B.due("the first", x.path(0, 15, 0), 2);
        B.due("the last", x.path(0, 15, 13), 15);
        B.due("one behind it", x.path(0, 15, 14), -1);
        B.due("of none", x.path(0, 1, 0), -1);
        B.due("one and the same", x.path(0, 0, 0), -2);
        B.due("path(0, 16, 0)", x.path(0, 16, 0), -2);
        B.due("path(16, 0, 0)", x.path(16, 0, 0), -2);
        for (int none : Bounds.FAR_OFF) {
            B.due("path(" + none + ", 0, 0)", x.path(none, 0, 0), -2);
            B.due("path(0, " + none + ", 0)", x.path(0, none, 0), -2);
            B.due("path(0, 15, " + none + ")", x.path(0, 15, none), -1);
        }
        CardBowl y = Check.with(Bounds.houses(2));
        B.due("never", y.path(0, 1, 0), -1);
        // the same chain with 2 at its end: all others lie between
        text = new StringBuilder(Bounds.houses(16) + "introduce 1;" + Bounds.know(0, 1, 1, 3, 15, 2));
        for (int i = 3; i < 15; i++) {
            text.append(Bounds.know(i, i + 1));
        }
        CardBowl z = Check.with(text.toString());
        B.due("fourteen calls", z.soon(0, 2), 14);
        B.due("the first", z.path(0, 2, 0), 3);
        B.due("the one ahead of the last", z.path(0, 2, 12), 15);
        B.due("the last", z.path(0, 2, 13), 2);
        B.due("one behind it", z.path(0, 2, 14), -1);
    }

    private static void promise25Reach() {
        B.promise(25, "HOUSES that hang together with HOUSE a by who knows whom, as bits. -2: there is none such");
        CardBowl x = Check.with(Bounds.houses(16) + Bounds.know(0, 15, 1, 15, 2, 3));
        B.due("alone", x.reach(14), 1 << 14);
        B.due("reach(0)", x.reach(0), 1 << 15 | 3);
        B.due("reach(15)", x.reach(15), 1 << 15 | 3);
        B.due("reach(3)", x.reach(3), 12);
        B.due("reach(16)", x.reach(16), -2);
        for (int none : Bounds.FAR_OFF) {
            B.due("reach(" + none + ")", x.reach(none), -2);
        }
        CardBowl all = circle(16);
        B.due("all sixteen", all.reach(7), 65535);
        CardBowl chain = Check.with(Bounds.with(0, "came 399") + Bounds.houses(1) + Bounds.know(0, 1));
        B.due("there yet or not", chain.reach(1), 3);
    }

    private static void promise26Drop() {
        B.promise(26, "The HOUSE that a knows and can drop at least loss (VI); NONE: none. -2: there is none such");
        CardBowl x = Check.with(Bounds.houses(3) + Bounds.know(0, 1, 0, 2, 1, 2));
        B.due("drop(0)", x.drop(0), 1);
        B.due("drop(2)", x.drop(2), 0);
        B.due("drop(3)", x.drop(3), -2);
        for (int none : Bounds.FAR_OFF) {
            B.due("drop(" + none + ")", x.drop(none), -2);
        }
        CardBowl strangers = Check.with(Bounds.houses(2));
        B.due("knows none", strangers.drop(0), -1);
        B.due("nobody is dropped by it", x.known(0, 1), 1);
        CardBowl all = circle(16);
        for (int a = 0; a < 16; a++) {
            B.due("of sixteen, by " + a, all.drop(a), a == 0 ? 1 : a == 15 ? 0 : a - 1);
        }
        B.due("drop(16)", all.drop(16), -2);
    }

    private static void promise27Tie() {
        B.promise(27, "1 if all who hang together would no more, if two did not know each other; 0");
        CardBowl x = Check.with(Bounds.houses(5) + Bounds.know(0, 1, 1, 2, 2, 0, 2, 3));
        B.due("in a triangle", x.tie(0, 1), 0);
        B.due("the only one to 3", x.tie(2, 3), 1);
        B.due("the other way", x.tie(3, 2), 1);
        x.meet(0, 3);
        B.due("no more the only one", x.tie(2, 3), 0);
        B.promise(27, "-2: there are none such, or one and the same; NONE: they do not");
        B.due("they do not, though they hang together", x.tie(1, 3), -1);
        B.due("they do not", x.tie(0, 4), -1);
        B.due("one and the same", x.tie(4, 4), -2);
        B.due("tie(0, 5)", x.tie(0, 5), -2);
        B.due("tie(5, 0)", x.tie(5, 0), -2);
        for (int none : Bounds.FAR_OFF) {
            B.due("tie(" + none + ", 0)", x.tie(none, 0), -2);
            B.due("tie(0, " + none + ")", x.tie(0, none), -2);
        }
    }

    private static void promise28Rings() {
        B.promise(28, "RINGS (VI): how many");
        B.due("no houses", new CardBowl().rings(), 0);
        CardBowl x = circle(16);
        B.due("nothing is DONE", x.rings(), 0);
        for (int a = 0; a < 16; a += 2) {
            x.does(a, a + 1, 2);
            B.due("one way alone", x.rings(), a / 2);
            x.does(a + 1, a, 2);
            B.due("both ways", x.rings(), a / 2 + 1);
        }
        B.due("the last of them", x.ring(15), 3 << 14);
        Check.town(x, Bounds.houses(3) + Bounds.know(0, 1, 1, 2));
        B.due("another town", x.rings(), 0);
        x.does(1, 2, 2);
        x.does(2, 1, 2);
        rings(x, 0, 6, 6);
        Check.town(x, Bounds.houses(3) + Bounds.know(0, 1, 1, 2));
        x.does(0, 1, 2);
        x.does(1, 0, 2);
        rings(x, 3, 3, 0);
    }

    private static void promise29Ring() {
        B.promise(29, "The RING with HOUSE a, as bits; 0: it is in none. -2: there is none such");
        CardBowl x = Check.with(Bounds.houses(3) + Bounds.know(0, 2));
        x.does(0, 2, 2);
        x.does(2, 0, 2);
        B.due("ring(0)", x.ring(0), 5);
        B.due("ring(1)", x.ring(1), 0);
        B.due("ring(2)", x.ring(2), 5);
        B.due("ring(3)", x.ring(3), -2);
        for (int none : Bounds.FAR_OFF) {
            B.due("ring(" + none + ")", x.ring(none), -2);
        }
    }
}
