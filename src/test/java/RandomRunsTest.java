import java.util.Random;

/** Runs of calls drawn by a fixed seed, each answer compared with the one of the Model. */
public final class RandomRunsTest {
    private static final String[] WEEKDAYS = {"sun", "mon", "tue", "wed", "thu", "fri", "sat"};
    private static final String[] PAYINGS = {"sent", "card", "call", "dinner"};
    private static final String[] PARTS = {"mine", "theirs", "debts", "day", "known"};
    private static final String[] SIGNS = {"more", "less", "same"};
    private static final String[] WORDS = {"house", "at", "know", "new", "introduce", "owes", "within", "if", "and",
        "plus", "minus", "times", "came", "bride", "rank", "home", ";", "sun", "call", "mine", "A", "17", "1000"};

    private final Check check = new Check("RandomRunsTest");
    private final Random random;
    private final int run;
    private final int houses;
    private final StringBuilder told = new StringBuilder();
    private CardBowl x;
    private Model m;

    private RandomRunsTest(int run) {
        this.run = run;
        random = new Random(run);
        houses = run % 5 == 0 ? 3 + random.nextInt(6) : 2 + random.nextInt(5);
    }

    public static void main(String[] args) {
        int runs = args.length > 0 ? Integer.parseInt(args[0]) : 600;
        long calls = 0;
        for (int run = 0; run < runs; run++) {
            RandomRunsTest test = new RandomRunsTest(run);
            test.go();
            calls += 500;
            if (test.check.hasWrong()) {
                test.check.finish();
            }
        }
        System.out.println("RandomRunsTest: " + runs + " runs of about " + calls / Math.max(1, runs) + " calls");
    }

    private int upTo(int n) {
        return random.nextInt(n + 1);
    }

    private String pick(String[] words) {
        return words[random.nextInt(words.length)];
    }

    private String sum() {
        StringBuilder b = new StringBuilder();
        int parts = 1 + upTo(2);
        for (int i = 0; i < parts; i++) {
            if (i > 0) {
                b.append(' ').append(pick(new String[] {"plus", "minus", "times"})).append(' ');
            }
            b.append(random.nextBoolean() ? pick(PARTS) : Integer.toString(upTo(random.nextInt(5) == 0 ? 999 : 9)));
        }
        return b.toString();
    }

    private String owesLine() {
        StringBuilder b = new StringBuilder();
        b.append(pick(PAYINGS)).append(" owes ").append(pick(PAYINGS)).append(" within ").append(upTo(20));
        int tests = Math.max(0, upTo(3) - 1);
        for (int i = 0; i < tests; i++) {
            b.append(i == 0 ? " if " : " and ").append(sum()).append(' ').append(pick(SIGNS)).append(' ').append(sum());
        }
        return b.append(";").toString();
    }

    private String houseLine() {
        int from = upTo(120);
        int spread = run % 3 == 0 ? 99 : 30;
        return "house at " + upTo(spread) + " " + upTo(spread) + " rank " + upTo(run % 2 == 0 ? 2 : 9) + " home "
            + WEEKDAYS[upTo(run % 4 == 0 ? 1 : 6)] + " " + from + " " + (from + upTo(180 - from))
            + (upTo(3) == 0 ? " came " + upTo(9) : "") + (upTo(4) == 0 ? " bride " + upTo(9) : "") + ";";
    }

    private String townText() {
        StringBuilder b = new StringBuilder();
        for (int i = 0; i < houses; i++) {
            b.append(houseLine()).append(upTo(3) == 0 ? "\n" : "");
        }
        int links = upTo(houses * 2);
        for (int i = 0; i < links; i++) {
            int a = upTo(houses - 1);
            int c = (a + 1 + upTo(houses - 2)) % houses;
            b.append("know ").append(a).append(' ').append(c).append(';');
        }
        if (upTo(1) == 0) {
            b.append("new ").append(upTo(9)).append(" ;");
        }
        if (upTo(3) > 0) {
            b.append("introduce ").append(1 + upTo(1)).append(";");
        }
        int lines = 2 + upTo(6);
        for (int i = 0; i < lines; i++) {
            b.append(owesLine());
        }
        return b.toString();
    }

    /** A text with a word changed, left out or put in, so that most have a fault. */
    private String spoilt(String text) {
        String[] words = text.replace(";", " ; ").trim().split("[ \n]+");
        int i = random.nextInt(words.length);
        int how = upTo(3);
        if (how == 0) {
            words[i] = pick(WORDS);
        } else if (how == 1) {
            words[i] = "";
        } else if (how == 2) {
            words[i] = words[i] + " " + pick(WORDS);
        } else {
            words[i] = words[i] + (char) upTo(255);
        }
        String all = String.join(" ", words);
        return upTo(4) == 0 ? all.substring(0, random.nextInt(all.length())) : all;
    }

    private void same(String call, long got, long want) {
        told.append(call).append(" = ").append(want).append('\n');
        check.due("run " + run + " " + call, got, want);
    }

    private void tell(String text) {
        String cut = text.length() > 1400 ? text.substring(0, 1400) : text;
        for (int i = 0; i < cut.length(); i += 20) {
            int[] n = new int[5];
            for (int j = 0; j < 20; j++) {
                n[j / 4] = n[j / 4] << 8 | (i + j < cut.length() ? cut.charAt(i + j) : 0);
            }
            same("feed", x.feed(n[0], n[1], n[2], n[3], n[4]), m.feed(n));
        }
        same("end", x.end(cut.length()), m.end(cut.length()));
        same("town " + cut, x.town(), m.town());
        same("fault(0)", x.fault(0), m.fault(0));
        same("fault(1)", x.fault(1), m.fault(1));
    }

    private void go() {
        x = new CardBowl();
        m = new Model();
        String text = townText();
        tell(spoilt(text));
        tell(text);
        for (int i = 0; i < 450 && !check.hasWrong(); i++) {
            if (upTo(2) > 0) {
                change();
            } else {
                ask();
            }
            if (upTo(149) == 0) {
                tell(upTo(1) == 0 ? spoilt(townText()) : townText());
            }
        }
        if (check.hasWrong()) {
            System.out.println(told);
        }
    }

    private int anyHouse() {
        return upTo(40) == 0 ? -1 : upTo(40) == 0 ? houses : upTo(houses - 1);
    }

    private void change() {
        int a = anyHouse();
        int b = anyHouse();
        int p = upTo(40) == 0 ? 4 - 5 * upTo(1) : upTo(3);
        int k = upTo(20) == 0 ? 3 : upTo(2);
        int slot = upTo(20) == 0 ? 4 : upTo(3);
        switch (upTo(15)) {
            case 0:
                int n = upTo(20) == 0 ? 61 : upTo(3);
                same("days(" + n + ")", x.days(n), m.days(n));
                break;
            case 1:
                if (upTo(4) == 0) {
                    same("meet(" + a + ", " + b + ")", x.meet(a, b), m.meet(a, b));
                }
                break;
            case 2:
                same("keep(" + k + ")", x.keep(k), m.keep(k));
                break;
            case 3:
                if (upTo(2) == 0) {
                    same("back(" + k + ")", x.back(k), m.back(k));
                }
                break;
            case 4:
                int width = upTo(20) == 0 ? 4 : upTo(3);
                int size = upTo(20) == 0 ? -1 : upTo(9);
                same("row(" + slot + ", " + width + ", " + size + ")", x.row(slot, width, size),
                    m.row(slot, width, size));
                break;
            case 5:
            case 6:
            case 7:
                int i = upTo(9);
                long v = upTo(9) == 0 ? 1L << upTo(40) : upTo(Math.max(4, houses - 1));
                same("write(" + slot + ", " + i + ", " + v + ")", x.write(slot, i, v), m.write(slot, i, v));
                break;
            case 8:
                int from = upTo(4) - 1;
                int to = upTo(3);
                int at = upTo(4) - 1;
                int many = upTo(4) - 1;
                same("paste(" + slot + ", " + from + ", " + to + ", " + at + ", " + many + ")",
                    x.paste(slot, from, to, at, many), m.paste(slot, from, to, at, many));
                break;
            case 9:
                same("done(" + slot + ")", x.done(slot), m.done(slot));
                break;
            default:
                same("does(" + a + ", " + b + ", " + p + ")", x.does(a, b, p), m.does(a, b, p));
                break;
        }
    }

    private void ask() {
        int a = anyHouse();
        int b = anyHouse();
        int p = upTo(3);
        int i = upTo(5) - 1;
        int what = upTo(4);
        int day = Math.min(400, m.now.day + upTo(8) - (upTo(9) == 0 ? 1 : 0));
        int k = upTo(3);
        same("bars", x.bars(a, b, p), m.bars(a, b, p));
        same("known", x.known(a, b), m.known(a, b));
        same("debts", x.debts(a), m.debts(a));
        same("debt", x.debt(a, i, what), m.debt(a, i, what));
        same("slights", x.slights(b), m.slights(b));
        same("first", x.first(), m.first());
        same("owes", x.owes(a, b, p), m.owes(a, b, p));
        same("round", x.round(a, day, i), m.round(a, day, i));
        same("worth", x.worth(a, day), m.worth(a, day));
        same("over", x.over(a, day), m.over(a, day));
        same("round", x.round(a, day, 0), m.round(a, day, 0));
        same("may", x.may(k, a, day), m.may(k, a, day));
        same("fewest(" + a + ")", x.fewest(a), m.fewest(a));
        same("lost", x.lost(a), m.lost(a));
        same("soon", x.soon(a, b), m.soon(a, b));
        same("path", x.path(a, b, i), m.path(a, b, i));
        same("path", x.path(a, b, 0), m.path(a, b, 0));
        same("reach", x.reach(a), m.reach(a));
        same("drop", x.drop(a), m.drop(a));
        same("tie", x.tie(a, b), m.tie(a, b));
        same("rings", x.rings(), m.rings());
        same("ring", x.ring(a), m.ring(a));
        for (int w = 0; w < 10; w++) {
            same("house", x.house(a, w), m.house(a, w));
            same("count", x.count(w), m.count(w));
        }
        same("count(10)", x.count(10), m.count(10));
        same("fault(0)", x.fault(0), m.fault(0));
        same("fault(1)", x.fault(1), m.fault(1));
        same("beside", x.beside(k), m.beside(k));
    }
}
