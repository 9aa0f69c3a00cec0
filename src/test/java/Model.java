import java.util.ArrayList;
import java.util.Arrays;
import java.util.Collections;
import java.util.List;

/** The document once more, by trying everything and with no thought of speed: what CardBowl is compared with. */
final class Model {
    static final int NONE = -1;

    /** A fault of a text, thrown where it is found. */
    static final class Fault extends RuntimeException {
        private static final long serialVersionUID = 1L;
        final int kind;
        final int place;

        Fault(int kind, int place) {
            this.kind = kind;
            this.place = place;
        }
    }

    /** A number on the way was too great. */
    static final class Beyond extends RuntimeException {
        private static final long serialVersionUID = 1L;
    }

    static final class House {
        int x;
        int y;
        int rank;
        int weekday;
        int from;
        int to;
        int came;
        int bride;
    }

    /** A line with owes; each test is three texts of tokens: sum, sign, sum. */
    static final class Line {
        String paying;
        String kind;
        int within;
        List<List<String>> lefts = new ArrayList<>();
        List<String> signs = new ArrayList<>();
        List<List<String>> rights = new ArrayList<>();
    }

    static final class Debt {
        final int a;
        final int b;
        final int kind;
        final int due;
        final int came;

        Debt(int a, int b, int kind, int due, int came) {
            this.a = a;
            this.b = b;
            this.kind = kind;
            this.due = due;
            this.came = came;
        }
    }

    /** All that an image keeps; lists are never changed in place but for the own ones of the state of now. */
    static final class All {
        List<House> houses = new ArrayList<>();
        List<int[]> told = new ArrayList<>();
        List<Line> code = new ArrayList<>();
        int fresh = 0;
        int introducers = 3;
        int day = 0;
        List<Debt> debts = new ArrayList<>();
        List<int[]> done = new ArrayList<>();
        int paid = 0;

        All copy() {
            All c = new All();
            c.houses = houses;
            c.told = told;
            c.code = code;
            c.fresh = fresh;
            c.introducers = introducers;
            c.day = day;
            c.debts = new ArrayList<>(debts);
            c.done = new ArrayList<>(done);
            c.paid = paid;
            return c;
        }
    }

    private static final List<String> PAYINGS = Arrays.asList("sent", "card", "call", "dinner");
    private static final List<String> WEEKDAYS = Arrays.asList("sun", "mon", "tue", "wed", "thu", "fri", "sat");
    private static final List<String> PARTS = Arrays.asList("mine", "theirs", "debts", "day", "known");
    private static final List<String> SIGNS = Arrays.asList("more", "less", "same");

    All now = new All();
    /** Of the latest town(): no image has them. */
    private int fault = 0;
    private int place = NONE;
    final All[] images = new All[3];
    final StringBuilder tape = new StringBuilder();
    final long[][] rows = new long[4][];
    final int[] widths = new int[4];

    // ---- the text

    private List<String> tokens;
    private List<Integer> places;
    private int at;

    private static boolean letter(char c) {
        return c >= 'a' && c <= 'z';
    }

    private static boolean digit(char c) {
        return c >= '0' && c <= '9';
    }

    private void tokenize(String text) {
        tokens = new ArrayList<>();
        places = new ArrayList<>();
        int i = 0;
        while (i < text.length()) {
            char c = text.charAt(i);
            int j = i + 1;
            if (c == ' ' || c == '\n') {
                i++;
                continue;
            }
            while (letter(c) && j < text.length() && letter(text.charAt(j))) {
                j++;
            }
            while (digit(c) && j < text.length() && digit(text.charAt(j))) {
                j++;
            }
            tokens.add(text.substring(i, j));
            places.add(i);
            i = j;
        }
        tokens.add("");
        places.add(text.length());
    }

    private String peek() {
        return tokens.get(at);
    }

    private Fault here(int kind) {
        return new Fault(kind, places.get(at));
    }

    private void word(String w) {
        if (!peek().equals(w)) {
            throw here(1);
        }
        at++;
    }

    private String oneOf(List<String> words) {
        if (!words.contains(peek())) {
            throw here(1);
        }
        return tokens.get(at++);
    }

    private boolean atNumber() {
        return !peek().isEmpty() && digit(peek().charAt(0));
    }

    private int number(int least, int most) {
        if (!atNumber()) {
            throw here(1);
        }
        java.math.BigInteger v = new java.math.BigInteger(peek());
        if (v.bitLength() > 30 || v.intValue() < least || v.intValue() > most) {
            throw here(2);
        }
        at++;
        return v.intValue();
    }

    private All parse(String text) {
        tokenize(text);
        at = 0;
        All all = new All();
        while (!peek().isEmpty()) {
            String first = peek();
            if (first.equals("house")) {
                parseHouse(all);
            } else if (first.equals("know")) {
                at++;
                int a = number(0, all.houses.size() - 1);
                int place = at;
                int b = number(0, all.houses.size() - 1);
                if (a == b) {
                    throw new Fault(2, places.get(place));
                }
                all.told.add(new int[] {a, b});
            } else if (first.equals("new")) {
                at++;
                all.fresh = number(0, 99);
            } else if (first.equals("introduce")) {
                at++;
                all.introducers = number(1, 9);
            } else if (PAYINGS.contains(first)) {
                parseOwes(all);
            } else {
                throw here(1);
            }
            word(";");
        }
        return all;
    }

    private void parseHouse(All all) {
        if (all.houses.size() == 16) {
            throw here(3);
        }
        at++;
        House h = new House();
        word("at");
        h.x = number(0, 99);
        h.y = number(0, 99);
        word("rank");
        h.rank = number(0, 9);
        word("home");
        h.weekday = WEEKDAYS.indexOf(oneOf(WEEKDAYS));
        h.from = number(0, 180);
        h.to = number(h.from, 180);
        if (peek().equals("came")) {
            at++;
            h.came = number(0, 399);
        }
        if (peek().equals("bride")) {
            at++;
            h.bride = number(0, 99);
        }
        all.houses.add(h);
    }

    private void parseOwes(All all) {
        if (all.code.size() == 24) {
            throw here(3);
        }
        Line line = new Line();
        line.paying = oneOf(PAYINGS);
        word("owes");
        line.kind = oneOf(PAYINGS);
        word("within");
        line.within = number(0, 99);
        if (peek().equals("if")) {
            do {
                at++;
                line.lefts.add(parseSum());
                line.signs.add(oneOf(SIGNS));
                line.rights.add(parseSum());
            } while (peek().equals("and"));
        }
        all.code.add(line);
    }

    private List<String> parseSum() {
        int start = at;
        parsePart();
        while (Arrays.asList("plus", "minus", "times").contains(peek())) {
            at++;
            parsePart();
        }
        return tokens.subList(start, at);
    }

    private void parsePart() {
        if (atNumber()) {
            number(0, 999);
        } else {
            oneOf(PARTS);
        }
    }

    // ---- reckoning

    private static long bounded(long v) {
        if (Math.abs(v) > 1_000_000_000L) {
            throw new Beyond();
        }
        return v;
    }

    private static long partOf(String token, int[] facts) {
        int i = PARTS.indexOf(token);
        return i >= 0 ? facts[i] : Long.parseLong(token);
    }

    private static long sumOf(List<String> sum, int[] facts) {
        int[] i = {0};
        long total = termOf(sum, i, facts);
        while (i[0] < sum.size()) {
            boolean plus = sum.get(i[0]++).equals("plus");
            long term = termOf(sum, i, facts);
            total = bounded(plus ? total + term : total - term);
        }
        return total;
    }

    private static long termOf(List<String> sum, int[] i, int[] facts) {
        long product = partOf(sum.get(i[0]++), facts);
        while (i[0] < sum.size() && sum.get(i[0]).equals("times")) {
            i[0]++;
            product = bounded(product * partOf(sum.get(i[0]++), facts));
        }
        return product;
    }

    private static boolean testHolds(Line line, int i, int[] facts) {
        try {
            int order = Long.compare(sumOf(line.lefts.get(i), facts), sumOf(line.rights.get(i), facts));
            return order == Arrays.asList(1, -1, 0).get(SIGNS.indexOf(line.signs.get(i)));
        } catch (Beyond e) {
            return false;
        }
    }

    private Line lineFor(List<Line> code, int paying, int[] facts) {
        for (Line line : code) {
            boolean all = line.paying.equals(PAYINGS.get(paying));
            for (int i = 0; i < line.lefts.size(); i++) {
                all = all && testHolds(line, i, facts);
            }
            if (all) {
                return line;
            }
        }
        return null;
    }

    // ---- who knows whom

    private boolean has(int a) {
        return a >= 0 && a < now.houses.size();
    }

    private boolean pair(int a, int b) {
        return has(a) && has(b) && a != b;
    }

    private House house(int a) {
        return now.houses.get(a);
    }

    private boolean knowAfter(int deeds, int a, int b) {
        for (int[] t : now.told) {
            if (t[0] == a && t[1] == b || t[0] == b && t[1] == a) {
                return true;
            }
        }
        for (int[] d : now.done.subList(0, deeds)) {
            if (d[2] >= 2 && (d[0] == a && d[1] == b || d[0] == b && d[1] == a)) {
                return true;
            }
        }
        return false;
    }

    private boolean know(int a, int b) {
        return a != b && knowAfter(now.done.size(), a, b);
    }

    private boolean isNew(int a) {
        return now.day - house(a).came >= 0 && now.day - house(a).came <= now.fresh;
    }

    private int common(int a, int b) {
        int n = 0;
        for (int c = 0; c < now.houses.size(); c++) {
            if (know(a, c) && know(c, b)) {
                n++;
            }
        }
        return n;
    }

    int bars(int a, int b, int paying) {
        if (!pair(a, b) || paying < 0 || paying > 3) {
            return -2;
        }
        boolean there = now.day >= house(a).came && now.day >= house(b).came;
        boolean open = know(a, b) || isNew(b) && !isNew(a) || common(a, b) >= now.introducers;
        if (!there || !open) {
            return 1;
        }
        if (paying >= 2 && now.day % 7 != house(b).weekday) {
            return 2;
        }
        if (paying >= 2 && house(a).bride > 0 && now.day <= house(a).came + house(a).bride) {
            return 3;
        }
        return 0;
    }

    // ---- deeds

    private static int open(List<Debt> debts, int a) {
        int n = 0;
        for (Debt d : debts) {
            n += d.a == a ? 1 : 0;
        }
        return n;
    }

    private int[] facts(List<Debt> debts, int a, int b, int day, boolean knew) {
        return new int[] {house(a).rank, house(b).rank, open(debts, b), day, knew ? 1 : 0};
    }

    private static boolean owed(List<Debt> debts, int a, int b, int kind) {
        for (Debt d : debts) {
            if (d.a == a && d.b == b && d.kind == kind) {
                return true;
            }
        }
        return false;
    }

    private int deal(List<Debt> debts, List<Line> code, int[] deed, boolean knew) {
        int a = deed[0];
        int b = deed[1];
        int before = debts.size();
        debts.removeIf(d -> d.a == a && d.b == b && d.kind <= deed[2]);
        int paid = before - debts.size();
        Line line = lineFor(code, deed[2], facts(debts, a, b, deed[3], knew));
        if (line != null && !owed(debts, b, a, PAYINGS.indexOf(line.kind))) {
            debts.add(new Debt(b, a, PAYINGS.indexOf(line.kind), Math.min(399, deed[3] + line.within), deed[3]));
        }
        return paid;
    }

    int does(int a, int b, int paying) {
        int bar = bars(a, b, paying);
        if (bar != 0) {
            return bar < 0 ? -2 : -5;
        }
        if (now.done.size() == 600) {
            return -3;
        }
        int[] deed = {a, b, paying, now.day};
        int paid = deal(now.debts, now.code, deed, know(a, b));
        now.paid += paid;
        now.done.add(deed);
        return paid;
    }

    int meet(int a, int b) {
        if (!pair(a, b)) {
            return -2;
        }
        if (now.done.size() == 600) {
            return -3;
        }
        int strangers = know(a, b) ? 0 : 1;
        now.done.add(new int[] {a, b, 4, now.day});
        return strangers;
    }

    int done(int slot) {
        if (slot < 0 || slot > 3) {
            return -2;
        }
        if (rows[slot] == null) {
            return -6;
        }
        int n = 0;
        for (int i = 0; i + 3 <= rows[slot].length; i += 3) {
            long a = rows[slot][i];
            long b = rows[slot][i + 1];
            long p = rows[slot][i + 2];
            if (a != (int) a || b != (int) b || p != (int) p) {
                continue;
            }
            int answer = p == 4 ? meet((int) a, (int) b) : does((int) a, (int) b, (int) p);
            n += answer >= 0 ? 1 : 0;
        }
        return n;
    }

    int beside(int k) {
        if (k < 0 || k > 2) {
            return -2;
        }
        if (images[k] == null) {
            return -6;
        }
        List<Debt> debts = new ArrayList<>();
        for (int i = 0; i < now.done.size(); i++) {
            int[] d = now.done.get(i);
            if (d[2] < 4) {
                deal(debts, images[k].code, d, knowAfter(i, d[0], d[1]));
            }
        }
        return debts.size();
    }

    int owes(int a, int b, int paying) {
        if (!pair(a, b) || paying < 0 || paying > 3) {
            return -2;
        }
        Line line = lineFor(now.code, paying, facts(now.debts, a, b, now.day, know(a, b)));
        if (line == null || owed(now.debts, b, a, PAYINGS.indexOf(line.kind))) {
            return NONE;
        }
        return PAYINGS.indexOf(line.kind);
    }

    private List<Debt> debtsOf(int a) {
        List<Debt> own = new ArrayList<>();
        for (Debt d : now.debts) {
            if (d.a == a) {
                own.add(d);
            }
        }
        return own;
    }

    int debts(int a) {
        return has(a) ? debtsOf(a).size() : -2;
    }

    int debt(int a, int i, int what) {
        if (!has(a) || i < 0 || i >= debtsOf(a).size() || what < 0 || what > 3) {
            return NONE;
        }
        Debt d = debtsOf(a).get(i);
        return new int[] {d.b, d.kind, d.due, d.came}[what];
    }

    int slights(int b) {
        if (!has(b)) {
            return -2;
        }
        int n = 0;
        for (Debt d : now.debts) {
            n += d.b == b && d.due < now.day ? 1 : 0;
        }
        return n;
    }

    int first() {
        int best = NONE;
        for (int b = now.houses.size() - 1; b >= 0; b--) {
            if (slights(b) == 0) {
                continue;
            }
            if (best < 0 || slights(b) > slights(best)
                    || slights(b) == slights(best) && house(b).rank >= house(best).rank) {
                best = b;
            }
        }
        return best;
    }

    // ---- rounds

    private List<Integer> owedHouses(int a) {
        List<Integer> list = new ArrayList<>();
        for (int b = 0; b < now.houses.size(); b++) {
            for (Debt d : now.debts) {
                if (d.a == a && d.b == b && !list.contains(b)) {
                    list.add(b);
                }
            }
        }
        return list;
    }

    /** The minute at which a round in that order is over, or -1. */
    private int walk(int a, int day, List<Integer> order) {
        int minute = 0;
        int place = a;
        for (int b : order) {
            int greatest = -1;
            for (Debt d : now.debts) {
                if (d.a == a && d.b == b) {
                    greatest = Math.max(greatest, d.kind);
                }
            }
            if (greatest < 0) {
                return -1;
            }
            minute += Math.abs(house(place).x - house(b).x) + Math.abs(house(place).y - house(b).y);
            if (greatest >= 2) {
                minute = Math.max(minute, house(b).from) + 15;
                if (day % 7 != house(b).weekday || minute > house(b).to) {
                    return -1;
                }
            }
            if (minute > 180) {
                return -1;
            }
            place = b;
        }
        return minute;
    }

    private int worthOf(int a, List<Integer> order) {
        int worth = 0;
        for (Debt d : now.debts) {
            worth += d.a == a && order.contains(d.b) ? d.kind + 1 : 0;
        }
        return worth;
    }

    private static int bits(List<Integer> set) {
        int bits = 0;
        for (int b : set) {
            bits |= 1 << b;
        }
        return bits;
    }

    private List<Integer> bestOrder;

    private void tryRounds(int a, int day, List<Integer> order, List<Integer> choices) {
        int over = walk(a, day, order);
        if (over < 0) {
            return;
        }
        int c = Integer.compare(worthOf(a, bestOrder), worthOf(a, order));
        c = c != 0 ? c : Integer.compare(over, walk(a, day, bestOrder));
        c = c != 0 ? c : Integer.compare(bits(order), bits(bestOrder));
        // orders are tried by their rows, the least first
        if (c < 0) {
            bestOrder = new ArrayList<>(order);
        }
        for (int b : choices) {
            if (!order.contains(b)) {
                order.add(b);
                tryRounds(a, day, order, choices);
                order.remove(order.size() - 1);
            }
        }
    }

    private List<Integer> best(int a, int day) {
        List<Integer> owed = owedHouses(a);
        bestOrder = new ArrayList<>();
        tryRounds(a, day, new ArrayList<>(), owed.subList(0, Math.min(10, owed.size())));
        return bestOrder;
    }

    private boolean outing(int a, int day) {
        return has(a) && day >= now.day && day <= 399;
    }

    int worth(int a, int day) {
        return outing(a, day) ? worthOf(a, best(a, day)) : -2;
    }

    int round(int a, int day, int i) {
        if (!outing(a, day)) {
            return -2;
        }
        List<Integer> order = best(a, day);
        return i >= 0 && i < order.size() ? order.get(i) : NONE;
    }

    int over(int a, int day) {
        return outing(a, day) ? walk(a, day, best(a, day)) : -2;
    }

    int may(int slot, int a, int day) {
        if (slot < 0 || slot > 3 || !outing(a, day)) {
            return -2;
        }
        if (rows[slot] == null) {
            return -6;
        }
        List<Integer> order = new ArrayList<>();
        for (long v : rows[slot]) {
            if (v < 0 || v >= now.houses.size() || order.contains((int) v)) {
                return 0;
            }
            order.add((int) v);
        }
        return walk(a, day, order) >= 0 ? 1 : 0;
    }

    private boolean canSee(int a, int day, List<Integer> set, List<Integer> order) {
        if (walk(a, day, order) < 0) {
            return false;
        }
        if (order.size() == set.size()) {
            return true;
        }
        for (int b : set) {
            if (!order.contains(b)) {
                order.add(b);
                boolean can = canSee(a, day, set, order);
                order.remove(order.size() - 1);
                if (can) {
                    return true;
                }
            }
        }
        return false;
    }

    private int fewestWith(int a, List<Debt> debts, int i, List<List<Integer>> sets) {
        if (i == debts.size()) {
            int days = 0;
            for (List<Integer> set : sets) {
                days += set.isEmpty() ? 0 : 1;
            }
            return days;
        }
        Debt d = debts.get(i);
        int best = 99;
        for (int day = 0; day < 7 && now.day + day <= d.due; day++) {
            List<Integer> set = sets.get(day);
            if (set.contains(d.b)) {
                best = Math.min(best, fewestWith(a, debts, i + 1, sets));
                continue;
            }
            set.add(d.b);
            if (canSee(a, now.day + day, set, new ArrayList<>())) {
                best = Math.min(best, fewestWith(a, debts, i + 1, sets));
            }
            set.remove(Integer.valueOf(d.b));
        }
        return best;
    }

    private List<Debt> firstTen(int a) {
        List<Debt> own = debtsOf(a);
        return own.subList(0, Math.min(10, own.size()));
    }

    int fewest(int a) {
        if (!has(a)) {
            return -2;
        }
        List<List<Integer>> sets = new ArrayList<>();
        for (int day = 0; day < 7; day++) {
            sets.add(new ArrayList<>());
        }
        int best = fewestWith(a, firstTen(a), 0, sets);
        return best == 99 ? NONE : best;
    }

    int lost(int a) {
        if (!has(a)) {
            return -2;
        }
        int lost = 0;
        List<Debt> ten = firstTen(a);
        for (int i = 0; i < ten.size(); i++) {
            boolean seen = false;
            for (int day = now.day; day < now.day + 7; day++) {
                seen |= day <= ten.get(i).due && walk(a, day, Collections.singletonList(ten.get(i).b)) >= 0;
            }
            lost |= seen ? 0 : 1 << i;
        }
        return lost;
    }

    // ---- ways, ties and rings

    private boolean waysOf(int a, int b, List<Integer> known, List<Integer> calls, int most) {
        if (!calls.isEmpty() && calls.get(calls.size() - 1) == b) {
            return true;
        }
        if (calls.size() == most) {
            return false;
        }
        for (int c = 0; c < now.houses.size(); c++) {
            if (c == a || known.contains(c) || now.day < house(c).came) {
                continue;
            }
            int friends = 0;
            for (int k : known) {
                friends += know(k, c) ? 1 : 0;
            }
            if (friends < now.introducers) {
                continue;
            }
            known.add(c);
            calls.add(c);
            if (waysOf(a, b, known, calls, most)) {
                return true;
            }
            known.remove(known.size() - 1);
            calls.remove(calls.size() - 1);
        }
        return false;
    }

    private List<Integer> way(int a, int b) {
        for (int most = 1; most <= now.houses.size(); most++) {
            List<Integer> known = new ArrayList<>();
            for (int c = 0; c < now.houses.size(); c++) {
                if (know(a, c)) {
                    known.add(c);
                }
            }
            List<Integer> calls = new ArrayList<>();
            if (waysOf(a, b, known, calls, most)) {
                return calls;
            }
        }
        return null;
    }

    int soon(int a, int b) {
        if (!pair(a, b)) {
            return -2;
        }
        if (know(a, b)) {
            return 0;
        }
        List<Integer> calls = way(a, b);
        return calls == null ? NONE : calls.size();
    }

    int path(int a, int b, int i) {
        int n = soon(a, b);
        if (n == -2) {
            return -2;
        }
        return i >= 0 && i < n ? way(a, b).get(i) : NONE;
    }

    private int component(int a, int u, int v) {
        int set = 1 << a;
        for (int round = 0; round < 16; round++) {
            for (int p = 0; p < now.houses.size(); p++) {
                for (int q = 0; q < now.houses.size(); q++) {
                    boolean cut = p == u && q == v || p == v && q == u;
                    if ((set >> p & 1) == 1 && know(p, q) && !cut) {
                        set |= 1 << q;
                    }
                }
            }
        }
        return set;
    }

    int reach(int a) {
        return has(a) ? component(a, -1, -1) : -2;
    }

    int drop(int a) {
        if (!has(a)) {
            return -2;
        }
        int best = NONE;
        for (int b = 0; b < now.houses.size(); b++) {
            boolean same = Integer.bitCount(component(a, a, b)) == Integer.bitCount(component(a, -1, -1));
            if (know(a, b) && !owedHouses(a).contains(b) && same && (best < 0 || house(b).rank < house(best).rank)) {
                best = b;
            }
        }
        return best;
    }

    int tie(int a, int b) {
        if (!pair(a, b)) {
            return -2;
        }
        if (!know(a, b)) {
            return NONE;
        }
        return component(a, a, b) == component(a, -1, -1) ? 0 : 1;
    }

    /** Whether each house of a set called on another of it, and none on any other. */
    private boolean closed(int set) {
        if (Integer.bitCount(set) < 2) {
            return false;
        }
        int calling = 0;
        for (int[] d : now.done) {
            if ((d[2] == 2 || d[2] == 3) && (set >> d[0] & 1) == 1) {
                if ((set >> d[1] & 1) == 0) {
                    return false;
                }
                calling |= 1 << d[0];
            }
        }
        return calling == set;
    }

    private List<Integer> ringSets() {
        List<Integer> sets = new ArrayList<>();
        for (int set = 1; set < 1 << now.houses.size(); set++) {
            if (closed(set)) {
                sets.add(set);
            }
        }
        List<Integer> rings = new ArrayList<>();
        for (int set : sets) {
            boolean smallest = true;
            for (int other : sets) {
                smallest &= other == set || (other & set) != other;
            }
            if (smallest) {
                rings.add(set);
            }
        }
        return rings;
    }

    int rings() {
        return ringSets().size();
    }

    int ring(int a) {
        if (!has(a)) {
            return -2;
        }
        for (int set : ringSets()) {
            if ((set >> a & 1) == 1) {
                return set;
            }
        }
        return 0;
    }

    // ---- the rest

    int feed(int[] n) {
        if (tape.length() + 20 > 1400) {
            return NONE;
        }
        for (int v : n) {
            for (int shift = 24; shift >= 0; shift -= 8) {
                tape.append((char) (v >>> shift & 255));
            }
        }
        return tape.length();
    }

    int end(int n) {
        if (n < 0 || n > tape.length()) {
            return NONE;
        }
        tape.setLength(n);
        return n;
    }

    int town() {
        String text = tape.toString();
        tape.setLength(0);
        try {
            now = parse(text);
            fault = 0;
            place = NONE;
            return now.houses.size();
        } catch (Fault f) {
            fault = f.kind;
            place = f.place;
            return -4;
        }
    }

    int fault(int what) {
        return what == 0 ? fault : what == 1 ? place : NONE;
    }

    int days(int n) {
        if (n < 0 || n > 60 || now.day + n > 399) {
            return -2;
        }
        return now.day += n;
    }

    int known(int a, int b) {
        return pair(a, b) ? know(a, b) ? 1 : 0 : -2;
    }

    int house(int a, int what) {
        if (!has(a) || what < 0 || what > 8) {
            return -2_000_000_000;
        }
        House h = house(a);
        int by = 0;
        int to = 0;
        for (int[] d : now.done) {
            by += d[0] == a && d[2] == 2 ? 1 : 0;
            to += d[1] == a && d[2] == 2 ? 1 : 0;
        }
        return new int[] {h.x, h.y, h.rank, h.weekday, h.from, h.to, h.came, by, to}[what];
    }

    int count(int what) {
        int late = 0;
        for (Debt d : now.debts) {
            late += d.due < now.day ? 1 : 0;
        }
        int filled = 0;
        for (long[] row : rows) {
            filled += row != null ? 1 : 0;
        }
        int[] counts = {now.houses.size(), now.code.size(), now.day, now.debts.size(), late, now.done.size(), now.paid,
            tape.length(), now.introducers, now.fresh, filled};
        return what >= 0 && what < counts.length ? counts[what] : NONE;
    }

    int keep(int k) {
        if (k < 0 || k > 2) {
            return -2;
        }
        images[k] = now.copy();
        return 0;
    }

    int back(int k) {
        if (k < 0 || k > 2) {
            return -2;
        }
        if (images[k] == null) {
            return -6;
        }
        now = images[k].copy();
        return 0;
    }

    int row(int slot, int width, int n) {
        if (slot < 0 || slot > 3 || width < 0 || width > 3 || n > 60) {
            return -2;
        }
        if (n < 0) {
            return -3;
        }
        rows[slot] = new long[n];
        widths[slot] = width;
        return 0;
    }

    int write(int slot, int i, long v) {
        if (slot < 0 || slot > 3) {
            return -2;
        }
        if (rows[slot] == null) {
            return -6;
        }
        if (i < 0 || i >= rows[slot].length) {
            return -7;
        }
        int gone = 64 - (8 << widths[slot]);
        rows[slot][i] = v << gone >> gone;
        return 0;
    }

    int paste(int slot, int i, int to, int k, int n) {
        if (slot < 0 || slot > 3 || to < 0 || to > 3) {
            return -2;
        }
        if (rows[slot] == null || rows[to] == null) {
            return -6;
        }
        if (widths[slot] != widths[to]) {
            return -8;
        }
        if (i < 0 || k < 0 || n < 0 || (long) i + n > rows[slot].length || (long) k + n > rows[to].length) {
            return -7;
        }
        System.arraycopy(rows[slot].clone(), i, rows[to], k, n);
        return 0;
    }
}
