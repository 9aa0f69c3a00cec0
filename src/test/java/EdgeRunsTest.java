import java.util.Random;

/** Runs drawn by a fixed seed of numbers at their bounds and one beyond, each answer compared with the one of the Model. */
public final class EdgeRunsTest {
    private static final int[] PLACES = {0, 0, 1, 45, 82, 90, 98, 99};
    private static final int[] MINUTES = {0, 1, 14, 15, 16, 30, 90, 164, 165, 166, 179, 180};
    private static final int[] CAME = {0, 0, 0, 1, 6, 7, 398, 399};
    private static final int[] BRIDES = {0, 1, 6, 7, 98, 99};
    private static final int[] WITHIN = {0, 1, 5, 6, 7, 98, 99};
    private static final int[] STEPS = {0, 1, 1, 1, 6, 7, 59, 60, 61, -1};
    private static final int[] NUMBERS = {0, 1, 2, 9, 500, 998, 999};
    private static final String[] PARTS = {"mine", "theirs", "debts", "day", "known"};
    private static final String[] JOINTS = {"plus", "minus", "times", "times"};
    private static final String[] SIGNS = {"more", "less", "same"};

    private final Check check = new Check("EdgeRunsTest");
    private final Random random;
    private final int run;
    private final boolean great;
    private final int houses;
    private final StringBuilder told = new StringBuilder();
    private final CardBowl x = new CardBowl();
    private final Model m = new Model();

    private EdgeRunsTest(int run) {
        this.run = run;
        random = new Random(5_000_000L + run);
        great = run % 4 == 0;
        houses = great ? 14 + upTo(2) : 2 + upTo(4);
    }

    public static void main(String[] args) {
        int runs = args.length > 0 ? Integer.parseInt(args[0]) : 200;
        for (int run = 0; run < runs; run++) {
            EdgeRunsTest test = new EdgeRunsTest(run);
            test.go();
            if (test.check.hasWrong()) {
                System.out.println(test.told);
                test.check.finish();
            }
        }
        System.out.println("EdgeRunsTest: " + runs + " runs");
    }

    private int upTo(int n) {
        return random.nextInt(n + 1);
    }

    private int pick(int[] numbers) {
        return numbers[random.nextInt(numbers.length)];
    }

    private String pick(String[] words) {
        return words[random.nextInt(words.length)];
    }

    /** Seldom one more than it may be, so that many texts have a fault. */
    private int most(int picked, int most) {
        return picked == most && upTo(60) == 0 ? most + 1 : picked;
    }

    private String houseLine() {
        int from = pick(MINUTES);
        int to = pick(MINUTES);
        if (from > to && upTo(60) > 0) {
            int other = from;
            from = to;
            to = other;
        }
        String rest = (upTo(2) == 0 ? "came" + most(pick(CAME), 399) : "") + (upTo(2) == 0 ? "bride" + most(pick(BRIDES), 99) : "");
        return "house at" + most(pick(PLACES), 99) + " " + most(pick(PLACES), 99) + "rank" + most(9 * upTo(1), 9) + "home "
            + Bounds.WEEKDAYS[upTo(1) * upTo(6)] + from + " " + most(to, 180) + rest + ";";
    }

    private String sum() {
        StringBuilder b = new StringBuilder();
        int parts = 1 + upTo(4);
        for (int i = 0; i < parts; i++) {
            b.append(i > 0 ? pick(JOINTS) : "").append(i > 0 ? " " : "");
            b.append(upTo(2) == 0 ? pick(PARTS) : Integer.toString(most(pick(NUMBERS), 999))).append(' ');
        }
        return b.toString();
    }

    private String owesLine() {
        StringBuilder b = new StringBuilder();
        b.append(pick(Bounds.PAYINGS)).append(" owes ").append(pick(Bounds.PAYINGS)).append(" within ").append(most(pick(WITHIN), 99));
        if (!great && upTo(2) == 0) {
            b.append(" if ").append(sum()).append(pick(SIGNS)).append(' ').append(sum());
        }
        return b.append(';').toString();
    }

    private String townText() {
        StringBuilder b = new StringBuilder();
        for (int i = 0; i < houses + (houses == 16 && upTo(9) == 0 ? 1 : 0); i++) {
            b.append(houseLine());
        }
        int links = great ? 20 : upTo(2 * houses);
        for (int i = 0; i < links; i++) {
            int a = upTo(houses - 1);
            b.append("know ").append(a).append(' ').append((a + 1 + upTo(houses - 2)) % houses).append(';');
        }
        b.append(upTo(1) == 0 ? "new " + most(pick(BRIDES), 99) + ";" : "");
        b.append(upTo(3) > 0 ? "introduce " + (upTo(60) == 0 ? 10 * upTo(1) : pick(new int[] {1, 1, 2, 9})) + ";" : "");
        int lines = 4 + upTo(4);
        for (int i = 0; i < lines; i++) {
            b.append(owesLine());
        }
        return b.toString();
    }

    private void same(String call, long got, long want) {
        told.append(call).append(" = ").append(want).append('\n');
        check.due("run " + run + " " + call, got, want);
    }

    private void tell(String text) {
        String cut = text.length() > 1400 ? text.substring(0, 1400) : text;
        Check.feed(x, cut);
        m.tape.append(cut);
        same("town " + cut, x.town(), m.town());
        same("fault(0)", x.fault(0), m.fault(0));
        same("fault(1)", x.fault(1), m.fault(1));
    }

    private void go() {
        for (int i = 0; i < 6 && m.now.houses.isEmpty(); i++) {
            tell(townText());
        }
        if (run % 8 == 3) {
            flood();
        }
        for (int i = 0; i < 200 && !check.hasWrong(); i++) {
            change();
            if (upTo(great ? 9 : 3) == 0) {
                ask();
            }
        }
    }

    /** Nearly as many deeds as there may be, so that the last ones come in the run itself. */
    private void flood() {
        same("row(3, 0, 60)", x.row(3, 0, 60), m.row(3, 0, 60));
        for (int i = 0; i < 60; i++) {
            long v = i % 3 == 2 ? upTo(1) * 4 : (i % 3 + upTo(1) * (i / 3)) % houses;
            same("write(3, " + i + ", " + v + ")", x.write(3, i, v), m.write(3, i, v));
        }
        for (int i = 0; i < 60 && m.now.done.size() < 580; i++) {
            same("done(3)", x.done(3), m.done(3));
        }
    }

    private int anyHouse() {
        return upTo(60) == 0 ? pick(new int[] {-1, houses, 15, 16, 17, Integer.MAX_VALUE, Integer.MIN_VALUE}) : upTo(houses - 1);
    }

    private void change() {
        int a = anyHouse();
        int b = anyHouse();
        int p = upTo(60) == 0 ? 4 - 5 * upTo(1) : upTo(3);
        int k = upTo(3);
        switch (upTo(19)) {
            case 0:
            case 1:
                int n = pick(STEPS);
                same("days(" + n + ")", x.days(n), m.days(n));
                break;
            case 2:
                same("meet(" + a + ", " + b + ")", x.meet(a, b), m.meet(a, b));
                break;
            case 3:
                same("keep(" + k + ")", x.keep(k), m.keep(k));
                break;
            case 4:
                if (upTo(3) == 0) {
                    same("back(" + k + ")", x.back(k), m.back(k));
                }
                break;
            case 5:
                fill();
                break;
            case 6:
                same("done(" + k + ")", x.done(k), m.done(k));
                break;
            default:
                same("does(" + a + ", " + b + ", " + p + ")", x.does(a, b, p), m.does(a, b, p));
                break;
        }
    }

    /** A row of one deed, many times, in a slot of any width, with numbers pasted from place to place. */
    private void fill() {
        int slot = upTo(3);
        int width = upTo(3);
        int n = pick(new int[] {0, 1, 2, 3, 4, 5, 6, 59, 60, 61, -1});
        same("row(" + slot + ", " + width + ", " + n + ")", x.row(slot, width, n), m.row(slot, width, n));
        long[] deed = {anyHouse(), anyHouse(), upTo(4)};
        for (int i = 0; i < 6; i++) {
            long v = deed[i % 3] + (upTo(9) == 0 ? 1L << pick(new int[] {7, 8, 15, 16, 31, 32, 62, 63}) : 0);
            same("write(" + slot + ", " + i + ", " + v + ")", x.write(slot, i, v), m.write(slot, i, v));
        }
        for (int has = 3; has < 60; has *= 2) {
            int many = Math.min(has, n - has);
            same("paste(" + slot + ", 0, " + slot + ", " + has + ", " + many + ")", x.paste(slot, 0, slot, has, many), m.paste(slot, 0, slot, has, many));
        }
        int to = upTo(4);
        int from = upTo(61) - 1;
        int at = upTo(61) - 1;
        int many = pick(new int[] {0, 1, 2, 58, 59, 60, 61, -1});
        same("paste(" + slot + ", " + from + ", " + to + ", " + at + ", " + many + ")", x.paste(slot, from, to, at, many), m.paste(slot, from, to, at, many));
    }

    private void ask() {
        int a = anyHouse();
        int b = anyHouse();
        int i = upTo(3) - 1;
        int today = m.now.day;
        int day = pick(new int[] {today - 1, today, today + 1, today + 6, today + 7, 398, 399, 400});
        for (int p = -1; p < 5; p++) {
            same("bars", x.bars(a, b, p), m.bars(a, b, p));
            same("owes", x.owes(a, b, p), m.owes(a, b, p));
            same("debt", x.debt(a, i, p), m.debt(a, i, p));
            same("may", x.may(p, a, day), m.may(p, a, day));
            same("beside", x.beside(p), m.beside(p));
        }
        same("known", x.known(a, b), m.known(a, b));
        same("debts", x.debts(a), m.debts(a));
        same("last debt", x.debt(a, x.debts(a) - 1, 2), m.debt(a, m.debts(a) - 1, 2));
        same("slights", x.slights(b), m.slights(b));
        same("first", x.first(), m.first());
        same("lost", x.lost(a), m.lost(a));
        same("reach", x.reach(a), m.reach(a));
        same("drop", x.drop(a), m.drop(a));
        same("tie", x.tie(a, b), m.tie(a, b));
        for (int what = -1; what < 12; what++) {
            same("house", x.house(a, what), m.house(a, what));
            same("count", x.count(what), m.count(what));
        }
        if (!great) {
            askDear(a, b, day, i);
        }
    }

    /** What takes the Model too long in a great town. */
    private void askDear(int a, int b, int day, int i) {
        same("worth", x.worth(a, day), m.worth(a, day));
        same("over", x.over(a, day), m.over(a, day));
        same("round", x.round(a, day, i), m.round(a, day, i));
        same("fewest(" + a + ")", x.fewest(a), m.fewest(a));
        same("soon", x.soon(a, b), m.soon(a, b));
        same("path", x.path(a, b, i), m.path(a, b, i));
        same("rings", x.rings(), m.rings());
        same("ring", x.ring(a), m.ring(a));
    }
}
