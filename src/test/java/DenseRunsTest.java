import java.util.Random;

/** Towns with many debts and close places (rounds), or long chains of houses (ways), against the Model. */
public final class DenseRunsTest {
    private static final String[] WEEKDAYS = {"sun", "mon", "tue", "wed", "thu", "fri", "sat"};

    private final Check check = new Check("DenseRunsTest");
    private final Random random;
    private final int run;
    private final CardBowl x = new CardBowl();
    private final Model m = new Model();

    private DenseRunsTest(int run) {
        this.run = run;
        random = new Random(1_000_000L + run);
    }

    public static void main(String[] args) {
        int runs = args.length > 0 ? Integer.parseInt(args[0]) : 400;
        for (int run = 0; run < runs; run++) {
            DenseRunsTest test = new DenseRunsTest(run);
            if (run % 2 == 0) {
                test.rounds();
            } else {
                test.ways();
            }
            if (test.check.hasWrong()) {
                test.check.finish();
            }
        }
        System.out.println("DenseRunsTest: " + runs + " runs");
    }

    private int upTo(int n) {
        return random.nextInt(n + 1);
    }

    private void same(String call, long got, long want) {
        check.due("run " + run + " " + call, got, want);
    }

    private void tell(String text) {
        Check.feed(x, text);
        m.tape.append(text);
        same("town " + text, x.town(), m.town());
        same("no fault", x.fault(0), 0);
    }

    private void rounds() {
        int houses = 5 + upTo(run % 10 == 0 ? 3 : 2);
        int spread = new int[] {2, 5, 15, 60}[upTo(3)];
        int days = upTo(3);
        StringBuilder b = new StringBuilder();
        for (int i = 0; i < houses; i++) {
            int from = upTo(new int[] {0, 3, 60, 120}[upTo(3)]);
            int to = Math.min(180, from + 10 + upTo(new int[] {10, 30, 100}[upTo(2)]));
            b.append("house at ").append(upTo(spread)).append(' ').append(upTo(spread)).append(" rank ").append(upTo(9));
            b.append(" home ").append(WEEKDAYS[upTo(days)]).append(' ').append(from).append(' ').append(to).append(';');
        }
        for (int i = 1; i < houses; i++) {
            b.append("know 0 ").append(i).append(';');
        }
        b.append("sent owes call within 20 if mine less ").append(upTo(9)).append(';');
        b.append("sent owes card within ").append(upTo(8)).append(" if mine more ").append(upTo(9)).append(';');
        b.append("sent owes dinner within 7; card owes sent within ").append(upTo(9)).append(';');
        tell(b.toString());
        for (int i = 0; i < 12; i++) {
            int from = 1 + upTo(houses - 2);
            int paying = upTo(1);
            same("does", x.does(from, 0, paying), m.does(from, 0, paying));
            if (upTo(5) == 0) {
                same("days", x.days(1), m.days(1));
            }
        }
        for (int day = m.now.day; day < m.now.day + 7; day++) {
            same("worth", x.worth(0, day), m.worth(0, day));
            same("over", x.over(0, day), m.over(0, day));
            for (int i = 0; i < houses; i++) {
                same("round " + i, x.round(0, day, i), m.round(0, day, i));
            }
            mayWalk(day);
        }
        same("fewest", x.fewest(0), m.fewest(0));
        same("lost", x.lost(0), m.lost(0));
    }

    /** The best round can be walked; with two of it changed about, it is for the Model to say. */
    private void mayWalk(int day) {
        int n = 0;
        for (int i = 0; x.round(0, day, i) >= 0; i++) {
            n++;
        }
        x.row(0, 1, n);
        m.row(0, 1, n);
        int swap = n > 1 ? upTo(n - 2) : 0;
        for (int turn = 0; turn < 2; turn++) {
            for (int i = 0; i < n; i++) {
                boolean other = turn == 1 && (i == swap || i == swap + 1);
                int from = other && n > 1 ? 2 * swap + 1 - i : i;
                x.write(0, i, x.round(0, day, from));
                m.write(0, i, x.round(0, day, from));
            }
            same("may", x.may(0, 0, day), turn == 0 ? 1 : m.may(0, 0, day));
        }
    }

    private void ways() {
        int houses = 6 + upTo(run % 10 == 1 ? 4 : 2);
        StringBuilder b = new StringBuilder();
        for (int i = 0; i < houses; i++) {
            b.append("house at 0 0 rank ").append(upTo(3)).append(" home sun 0 9");
            b.append(upTo(9) == 0 ? " came 1;" : ";");
        }
        int needed = 1 + upTo(2);
        for (int i = 0; i < houses; i++) {
            for (int j = Math.max(0, i - 1 - upTo(needed)); j < i; j++) {
                if (upTo(4) > 0) {
                    b.append("know ").append(j).append(' ').append(i).append(';');
                }
            }
        }
        b.append("introduce ").append(needed).append(";call owes call within 9;");
        tell(b.toString());
        for (int a = 0; a < houses; a++) {
            for (int c = 0; c < houses; c++) {
                same("soon " + a + " " + c, x.soon(a, c), m.soon(a, c));
                for (int i = 0; i < x.soon(a, c); i++) {
                    same("path", x.path(a, c, i), m.path(a, c, i));
                }
                same("tie", x.tie(a, c), m.tie(a, c));
            }
            same("drop", x.drop(a), m.drop(a));
            same("reach", x.reach(a), m.reach(a));
        }
        for (int i = 0; i < 40; i++) {
            int a = upTo(houses - 1);
            int c = (a + 1 + upTo(1)) % houses;
            same("does", x.does(a, c, 2), m.does(a, c, 2));
        }
        same("rings", x.rings(), m.rings());
        for (int a = 0; a < houses; a++) {
            same("ring", x.ring(a), m.ring(a));
            same("drop", x.drop(a), m.drop(a));
        }
    }
}
