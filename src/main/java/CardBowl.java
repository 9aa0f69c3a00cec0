import java.util.Arrays;

/** Calls that are owed in a town of houses: ../shared/DOC.md says what each call answers. */
public final class CardBowl {
    public static final int NONE = -1;

    private static final int NO_SUCH = -2;
    private static final int TOO_MANY = -3;
    private static final int FAULTY = -4;
    private static final int BARRED = -5;
    private static final int HAS_NOTHING = -6;
    private static final int BEYOND_ROW = -7;
    private static final int OTHER_WIDTH = -8;
    private static final int NOTHING = -2_000_000_000;

    private static final int MOST_HOUSES = 16;
    private static final int MOST_LINES = 24;
    private static final int MOST_DONE = 600;
    private static final int LAST_DAY = 399;
    private static final int MOST_DAYS = 60;
    private static final int WEEK = 7;
    private static final int TAPE_BYTES = 1400;
    private static final int FED_BYTES = 20;
    private static final int MOST_NUMBERS = 60;
    private static final int WIDTHS = 4;
    private static final int SLOTS = 4;
    private static final int IMAGES = 3;
    private static final int KINDS = 4;
    private static final int CALL = 2;
    private static final int MEETING = 4;

    private final byte[] tape = new byte[TAPE_BYTES];
    private int tapeSize;
    private final Reader reader = new Reader();
    private final State state = new State();
    private final State[] images = new State[IMAGES];
    private final Slot[] slots = new Slot[SLOTS];
    private final Rounds rounds = new Rounds();
    private final Ways ways = new Ways();
    private final Debts otherDebts = new Debts();
    private final int[] otherKnows = new int[MOST_HOUSES];

    public CardBowl() {
        for (int i = 0; i < SLOTS; i++) {
            slots[i] = new Slot();
        }
    }

    public int feed(int a, int b, int c, int d, int e) {
        if (tapeSize + FED_BYTES > TAPE_BYTES) {
            return NONE;
        }
        feedNumber(a);
        feedNumber(b);
        feedNumber(c);
        feedNumber(d);
        feedNumber(e);
        return tapeSize;
    }

    public int end(int n) {
        if (n < 0 || n > tapeSize) {
            return NONE;
        }
        tapeSize = n;
        return n;
    }

    public int town() {
        reader.read(tape, tapeSize);
        tapeSize = 0;
        if (reader.fault != 0) {
            return FAULTY;
        }
        state.begin(reader.town, reader.code);
        forget();
        return state.town.houses;
    }

    public int fault(int what) {
        if (what == 0) {
            return reader.fault;
        }
        return what == 1 ? reader.place : NONE;
    }

    public int days(int n) {
        if (n < 0 || n > MOST_DAYS || state.day + n > LAST_DAY) {
            return NO_SUCH;
        }
        state.day += n;
        forget();
        return state.day;
    }

    public int bars(int a, int b, int paying) {
        return isDeed(a, b, paying) ? state.barrier(a, b, paying) : NO_SUCH;
    }

    public int does(int a, int b, int paying) {
        if (!isDeed(a, b, paying)) {
            return NO_SUCH;
        }
        if (state.barrier(a, b, paying) != 0) {
            return BARRED;
        }
        if (state.deeds.isFull()) {
            return TOO_MANY;
        }
        forget();
        return state.act(a, b, paying);
    }

    public int meet(int a, int b) {
        if (!state.town.hasPair(a, b)) {
            return NO_SUCH;
        }
        if (state.deeds.isFull()) {
            return TOO_MANY;
        }
        forget();
        return state.chance(a, b);
    }

    public int done(int slot) {
        if (!isSlot(slot)) {
            return NO_SUCH;
        }
        Slot s = slots[slot];
        if (!s.filled) {
            return HAS_NOTHING;
        }
        int made = 0;
        for (int i = 0; i + 2 < s.size; i += 3) {
            int a = s.small(i);
            int b = s.small(i + 1);
            int what = s.small(i + 2);
            int answer = what == MEETING ? meet(a, b) : does(a, b, what);
            if (answer >= 0) {
                made++;
            }
        }
        return made;
    }

    public int known(int a, int b) {
        return state.town.hasPair(a, b) ? state.knew(a, b) : NO_SUCH;
    }

    public int debts(int a) {
        return state.town.has(a) ? state.debts.open[a] : NO_SUCH;
    }

    public int debt(int a, int i, int what) {
        if (!state.town.has(a)) {
            return NONE;
        }
        int at = state.debts.nth(a, i);
        if (at < 0) {
            return NONE;
        }
        switch (what) {
            case 0:
                return state.debts.creditor[at];
            case 1:
                return state.debts.kind[at];
            case 2:
                return state.debts.due[at];
            case 3:
                return state.debts.came[at];
            default:
                return NONE;
        }
    }

    public int slights(int b) {
        return state.town.has(b) ? state.debts.overdueTo(b, state.day) : NO_SUCH;
    }

    public int first() {
        int most = 0;
        int found = NONE;
        for (int b = 0; b < state.town.houses; b++) {
            int slighted = state.debts.overdueTo(b, state.day);
            boolean prouder = found >= 0 && slighted == most && state.town.rank[b] > state.town.rank[found];
            if (slighted > most || prouder) {
                most = slighted;
                found = b;
            }
        }
        return found;
    }

    public int owes(int a, int b, int paying) {
        return isDeed(a, b, paying) ? state.wouldMake(a, b, paying) : NO_SUCH;
    }

    public int worth(int a, int day) {
        if (!isOuting(a, day)) {
            return NO_SUCH;
        }
        rounds.plan(state, a, day);
        return rounds.bestWorth;
    }

    public int round(int a, int day, int i) {
        if (!isOuting(a, day)) {
            return NO_SUCH;
        }
        rounds.plan(state, a, day);
        return i >= 0 && i < rounds.length ? rounds.order[i] : NONE;
    }

    public int over(int a, int day) {
        if (!isOuting(a, day)) {
            return NO_SUCH;
        }
        rounds.plan(state, a, day);
        return rounds.bestOver;
    }

    public int may(int slot, int a, int day) {
        if (!isSlot(slot) || !isOuting(a, day)) {
            return NO_SUCH;
        }
        Slot s = slots[slot];
        if (!s.filled) {
            return HAS_NOTHING;
        }
        return rounds.canWalk(state, a, day, s) ? 1 : 0;
    }

    public int fewest(int a) {
        return state.town.has(a) ? rounds.fewestDays(state, a) : NO_SUCH;
    }

    public int lost(int a) {
        return state.town.has(a) ? rounds.lostBits(state, a) : NO_SUCH;
    }

    public int soon(int a, int b) {
        if (!state.town.hasPair(a, b)) {
            return NO_SUCH;
        }
        ways.seek(state, a, b);
        return ways.length;
    }

    public int path(int a, int b, int i) {
        if (!state.town.hasPair(a, b)) {
            return NO_SUCH;
        }
        ways.seek(state, a, b);
        return i >= 0 && i < ways.length ? ways.calls[i] : NONE;
    }

    public int reach(int a) {
        return state.town.has(a) ? state.hanging(a, NONE) : NO_SUCH;
    }

    public int drop(int a) {
        if (!state.town.has(a)) {
            return NO_SUCH;
        }
        int found = NONE;
        for (int b = 0; b < state.town.houses; b++) {
            boolean poorer = found < 0 || state.town.rank[b] < state.town.rank[found];
            if (poorer && state.canDrop(a, b)) {
                found = b;
            }
        }
        return found;
    }

    public int tie(int a, int b) {
        if (!state.town.hasPair(a, b)) {
            return NO_SUCH;
        }
        if (state.knew(a, b) == 0) {
            return NONE;
        }
        return state.holdsTogether(a, b) ? 1 : 0;
    }

    public int rings() {
        state.followCalls();
        int found = 0;
        for (int a = 0; a < state.town.houses; a++) {
            int bits = state.ringBits(a);
            if (bits != 0 && Integer.numberOfTrailingZeros(bits) == a) {
                found++;
            }
        }
        return found;
    }

    public int ring(int a) {
        if (!state.town.has(a)) {
            return NO_SUCH;
        }
        state.followCalls();
        return state.ringBits(a);
    }

    public int house(int a, int what) {
        if (!state.town.has(a)) {
            return NOTHING;
        }
        switch (what) {
            case 0:
                return state.town.x[a];
            case 1:
                return state.town.y[a];
            case 2:
                return state.town.rank[a];
            case 3:
                return state.town.weekday[a];
            case 4:
                return state.town.from[a];
            case 5:
                return state.town.to[a];
            case 6:
                return state.town.came[a];
            case 7:
                return state.deeds.callsBy(a);
            case 8:
                return state.deeds.callsTo(a);
            default:
                return NOTHING;
        }
    }

    public int beside(int k) {
        if (!isImage(k)) {
            return NO_SUCH;
        }
        State image = images[k];
        if (image == null) {
            return HAS_NOTHING;
        }
        state.replay(image.code, otherDebts, otherKnows);
        return otherDebts.size;
    }

    public int count(int what) {
        switch (what) {
            case 0:
                return state.town.houses;
            case 1:
                return state.code.lines;
            case 2:
                return state.day;
            case 3:
                return state.debts.size;
            case 4:
                return state.debts.overdue(state.day);
            case 5:
                return state.deeds.size;
            case 6:
                return state.paid;
            case 7:
                return tapeSize;
            case 8:
                return state.town.introducers;
            case 9:
                return state.town.fresh;
            case 10:
                return filledSlots();
            default:
                return NONE;
        }
    }

    public int keep(int k) {
        if (!isImage(k)) {
            return NO_SUCH;
        }
        State image = images[k];
        if (image == null) {
            image = new State();
            images[k] = image;
        }
        image.copy(state);
        return 0;
    }

    public int back(int k) {
        if (!isImage(k)) {
            return NO_SUCH;
        }
        State image = images[k];
        if (image == null) {
            return HAS_NOTHING;
        }
        state.copy(image);
        forget();
        return 0;
    }

    public int row(int slot, int width, int n) {
        if (!isSlot(slot) || width < 0 || width >= WIDTHS || n > MOST_NUMBERS) {
            return NO_SUCH;
        }
        if (n < 0) {
            return TOO_MANY;
        }
        slots[slot].lay(width, n);
        return 0;
    }

    public int write(int slot, int i, long v) {
        if (!isSlot(slot)) {
            return NO_SUCH;
        }
        Slot s = slots[slot];
        if (!s.filled) {
            return HAS_NOTHING;
        }
        if (i < 0 || i >= s.size) {
            return BEYOND_ROW;
        }
        s.numbers[i] = s.cut(v);
        return 0;
    }

    public int paste(int slot, int i, int to, int k, int n) {
        if (!isSlot(slot) || !isSlot(to)) {
            return NO_SUCH;
        }
        Slot source = slots[slot];
        Slot target = slots[to];
        if (!source.filled || !target.filled) {
            return HAS_NOTHING;
        }
        if (source.width != target.width) {
            return OTHER_WIDTH;
        }
        if (!source.hasRun(i, n) || !target.hasRun(k, n)) {
            return BEYOND_ROW;
        }
        System.arraycopy(source.numbers, i, target.numbers, k, n);
        return 0;
    }

    private void feedNumber(int number) {
        for (int shift = 24; shift >= 0 && tapeSize < TAPE_BYTES; shift -= 8) {
            tape[tapeSize] = (byte) (number >> shift);
            tapeSize++;
        }
    }

    /** The rounds and ways found so far hold only until something changes. */
    private void forget() {
        rounds.planned = false;
        ways.sought = false;
    }

    private boolean isDeed(int a, int b, int paying) {
        return state.town.hasPair(a, b) && paying >= 0 && paying < KINDS;
    }

    private boolean isOuting(int a, int day) {
        return state.town.has(a) && day >= state.day && day <= LAST_DAY;
    }

    private static boolean isSlot(int slot) {
        return slot >= 0 && slot < SLOTS;
    }

    private static boolean isImage(int k) {
        return k >= 0 && k < IMAGES;
    }

    private int filledSlots() {
        int filled = 0;
        for (int i = 0; i < SLOTS; i++) {
            if (slots[i].filled) {
                filled++;
            }
        }
        return filled;
    }

    /** A row of numbers; its array is laid once and used again by every later row. */
    private static final class Slot {
        boolean filled;
        int width;
        int size;
        final long[] numbers = new long[MOST_NUMBERS];

        void lay(int ofWidth, int n) {
            filled = true;
            width = ofWidth;
            size = n;
            Arrays.fill(numbers, 0L);
        }

        long cut(long v) {
            switch (width) {
                case 0:
                    return (byte) v;
                case 1:
                    return (short) v;
                case 2:
                    return (int) v;
                default:
                    return v;
            }
        }

        /** Number i if it can be a house or a deed: a long one cast as it is could pass for one. */
        int small(int i) {
            if (i < 0 || i >= size || numbers[i] < 0 || numbers[i] >= MOST_HOUSES) {
                return NONE;
            }
            return (int) numbers[i];
        }

        boolean hasRun(int at, int n) {
            return at >= 0 && n >= 0 && n <= size && at <= size - n;
        }
    }

    /** The houses as the text tells them. */
    private static final class Town {
        static final int USUAL_INTRODUCERS = 3;

        int houses;
        int fresh;
        int introducers = USUAL_INTRODUCERS;
        final int[] x = new int[MOST_HOUSES];
        final int[] y = new int[MOST_HOUSES];
        final int[] rank = new int[MOST_HOUSES];
        final int[] weekday = new int[MOST_HOUSES];
        final int[] from = new int[MOST_HOUSES];
        final int[] to = new int[MOST_HOUSES];
        final int[] came = new int[MOST_HOUSES];
        final int[] bride = new int[MOST_HOUSES];
        /** Whom each house knows from the text alone, as bits. */
        final int[] told = new int[MOST_HOUSES];

        void clear() {
            houses = 0;
            fresh = 0;
            introducers = USUAL_INTRODUCERS;
            Arrays.fill(told, 0);
        }

        void copy(Town other) {
            houses = other.houses;
            fresh = other.fresh;
            introducers = other.introducers;
            System.arraycopy(other.x, 0, x, 0, MOST_HOUSES);
            System.arraycopy(other.y, 0, y, 0, MOST_HOUSES);
            System.arraycopy(other.rank, 0, rank, 0, MOST_HOUSES);
            System.arraycopy(other.weekday, 0, weekday, 0, MOST_HOUSES);
            System.arraycopy(other.from, 0, from, 0, MOST_HOUSES);
            System.arraycopy(other.to, 0, to, 0, MOST_HOUSES);
            System.arraycopy(other.came, 0, came, 0, MOST_HOUSES);
            System.arraycopy(other.bride, 0, bride, 0, MOST_HOUSES);
            System.arraycopy(other.told, 0, told, 0, MOST_HOUSES);
        }

        boolean has(int a) {
            return a >= 0 && a < houses;
        }

        boolean hasPair(int a, int b) {
            return has(a) && has(b) && a != b;
        }

        int minutes(int a, int b) {
            return Math.abs(x[a] - x[b]) + Math.abs(y[a] - y[b]);
        }

        boolean isThere(int a, int day) {
            return day >= came[a];
        }

        boolean isNew(int a, int day) {
            return day >= came[a] && day - came[a] <= fresh;
        }

        boolean waits(int a, int day) {
            return bride[a] > 0 && day - came[a] <= bride[a];
        }
    }

    /** The lines with owes; their tests stand one behind the other in one row of small numbers. */
    private static final class Code {
        /** Two tokens of a test take four bytes of text at least ("1" and "and"). */
        static final int MOST_TOKENS = TAPE_BYTES / 2;
        static final int PART = 1000;
        static final int PLUS = 2000;
        static final int MINUS = 2001;
        static final int TIMES = 2002;
        static final int MORE = 2003;
        static final int LESS = 2004;
        static final int SAME = 2005;
        static final int AND = 2006;
        static final int FACTS = 5;
        static final long GREATEST = 1_000_000_000L;

        int lines;
        int used;
        final int[] paying = new int[MOST_LINES];
        final int[] kind = new int[MOST_LINES];
        final int[] within = new int[MOST_LINES];
        final int[] start = new int[MOST_LINES];
        final int[] stop = new int[MOST_LINES];
        final int[] tests = new int[MOST_TOKENS];
        private final int[] facts = new int[FACTS];
        private boolean beyond;

        void clear() {
            lines = 0;
            used = 0;
        }

        void copy(Code other) {
            lines = other.lines;
            used = other.used;
            System.arraycopy(other.paying, 0, paying, 0, lines);
            System.arraycopy(other.kind, 0, kind, 0, lines);
            System.arraycopy(other.within, 0, within, 0, lines);
            System.arraycopy(other.start, 0, start, 0, lines);
            System.arraycopy(other.stop, 0, stop, 0, lines);
            System.arraycopy(other.tests, 0, tests, 0, used);
        }

        void put(int token) {
            if (used < MOST_TOKENS) {
                tests[used] = token;
                used++;
            }
        }

        /** The first line for this paying of which all tests hold, or NONE. */
        int lineFor(int way, int mine, int theirs, int debts, int day, int knew) {
            facts[0] = mine;
            facts[1] = theirs;
            facts[2] = debts;
            facts[3] = day;
            facts[4] = knew;
            for (int i = 0; i < lines; i++) {
                if (paying[i] == way && holds(i)) {
                    return i;
                }
            }
            return NONE;
        }

        /** Parts stand at every second place; what stands behind each tells what it was a part of. */
        private boolean holds(int line) {
            int last = Math.min(stop[line], MOST_TOKENS);
            long left = 0;
            long total = 0;
            long product = 1;
            boolean minus = false;
            int sign = SAME;
            beyond = false;
            for (int at = start[line]; at < last; at += 2) {
                int joint = at + 1 < last ? tests[at + 1] : AND;
                product = bounded(product * partOf(tests[at]));
                if (joint == TIMES) {
                    continue;
                }
                total = bounded(minus ? total - product : total + product);
                product = 1;
                minus = joint == MINUS;
                if (joint == AND) {
                    if (beyond || !compares(left, sign, total)) {
                        return false;
                    }
                    total = 0;
                } else if (joint >= MORE) {
                    left = total;
                    sign = joint;
                    total = 0;
                }
            }
            return true;
        }

        private static boolean compares(long left, int sign, long right) {
            if (sign == MORE) {
                return left > right;
            }
            return sign == LESS ? left < right : left == right;
        }

        private int partOf(int token) {
            if (token < PART) {
                return token;
            }
            return token - PART < FACTS ? facts[token - PART] : 0;
        }

        /** A number too great is remembered and cut, so that nothing behind it can wrap around. */
        private long bounded(long number) {
            if (number > GREATEST || number < -GREATEST) {
                beyond = true;
                return 0;
            }
            return number;
        }
    }

    /** Reads a tape into a town and a code of its own, so that a fault leaves the others as they are. */
    private static final class Reader {
        static final String FIRST_WORDS = "house know new introduce sent card call dinner";
        static final int PAYINGS_FROM = 4;
        static final String WEEKDAYS = "sun mon tue wed thu fri sat";
        static final String PAYINGS = "sent card call dinner";
        static final String PARTS = "mine theirs debts day known";
        static final String JOINTS = "plus minus times more less same and";

        static final int AT_END = 0;
        static final int WORD = 1;
        static final int NUMBER = 2;
        static final int SEMICOLON = 3;
        static final int STRANGE = 4;

        static final int CANNOT_STAND = 1;
        static final int OUT_OF_BOUNDS = 2;
        static final int ONE_TOO_MANY = 3;

        /** Above every bound of the document; longer numbers are cut to it. */
        static final int HUGE = 1_000_000;

        final Town town = new Town();
        final Code code = new Code();
        /** Of the latest text; they stay here, so that no image brings older ones back. */
        int fault;
        int place = NONE;
        private byte[] text;
        private int size;
        private int begin;
        private int next;
        private int kind;
        private int value;

        void read(byte[] tape, int length) {
            text = tape;
            size = Math.min(length, tape.length);
            next = 0;
            fault = 0;
            place = NONE;
            town.clear();
            code.clear();
            advance();
            for (int i = 0; i <= TAPE_BYTES && fault == 0 && kind != AT_END; i++) {
                int word = among(FIRST_WORDS);
                if (word >= PAYINGS_FROM) {
                    readOwes(word - PAYINGS_FROM);
                } else {
                    readOther(word);
                }
                closeLine();
            }
        }

        private void readOther(int word) {
            switch (word) {
                case 0:
                    readHouse();
                    break;
                case 1:
                    readKnow();
                    break;
                case 2:
                    advance();
                    town.fresh = number(0, 99);
                    break;
                case 3:
                    advance();
                    town.introducers = number(1, 9);
                    break;
                default:
                    refuse(CANNOT_STAND);
                    break;
            }
        }

        private void closeLine() {
            if (kind != SEMICOLON) {
                refuse(CANNOT_STAND);
            }
            if (fault == 0) {
                advance();
            }
        }

        private void readHouse() {
            int a = town.houses;
            if (a >= MOST_HOUSES) {
                refuse(ONE_TOO_MANY);
                return;
            }
            advance();
            choice("at");
            town.x[a] = number(0, 99);
            town.y[a] = number(0, 99);
            choice("rank");
            town.rank[a] = number(0, 9);
            choice("home");
            town.weekday[a] = choice(WEEKDAYS);
            town.from[a] = number(0, 180);
            town.to[a] = number(town.from[a], 180);
            town.came[a] = takes("came") ? number(0, LAST_DAY) : 0;
            town.bride[a] = takes("bride") ? number(0, 99) : 0;
            town.houses++;
        }

        private void readKnow() {
            advance();
            int a = number(0, town.houses - 1);
            if (kind == NUMBER && value == a) {
                refuse(OUT_OF_BOUNDS);
            }
            int b = number(0, town.houses - 1);
            if (fault == 0) {
                town.told[a] |= 1 << b;
                town.told[b] |= 1 << a;
            }
        }

        private void readOwes(int paying) {
            int line = code.lines;
            if (line >= MOST_LINES) {
                refuse(ONE_TOO_MANY);
                return;
            }
            advance();
            choice("owes");
            code.paying[line] = paying;
            code.kind[line] = choice(PAYINGS);
            choice("within");
            code.within[line] = number(0, 99);
            code.start[line] = code.used;
            if (takes("if")) {
                readTests();
            }
            code.stop[line] = code.used;
            code.lines++;
        }

        /** Sums need no brackets, so that a part and what may stand behind it tell all there is. */
        private void readTests() {
            boolean compared = false;
            for (int i = 0; i <= TAPE_BYTES; i++) {
                boolean counts = kind == NUMBER;
                code.put(counts ? number(0, Code.PART - 1) : Code.PART + choice(PARTS));
                if (fault != 0 || (compared && kind == SEMICOLON)) {
                    return;
                }
                int joint = Code.PLUS + among(JOINTS);
                boolean reckons = joint >= Code.PLUS && joint <= Code.TIMES;
                boolean compares = joint >= Code.MORE && joint <= Code.SAME;
                if (!reckons && !(compares && !compared) && !(joint == Code.AND && compared)) {
                    refuse(CANNOT_STAND);
                    return;
                }
                if (!reckons) {
                    compared = compares;
                }
                code.put(joint);
                advance();
            }
        }

        /** Which of the words the token is; it must be one of them. */
        private int choice(String words) {
            int word = among(words);
            if (word < 0) {
                refuse(CANNOT_STAND);
            }
            if (fault != 0) {
                return 0;
            }
            advance();
            return word;
        }

        /** Goes over a word that may stand here or not. */
        private boolean takes(String word) {
            if (fault != 0 || among(word) < 0) {
                return false;
            }
            advance();
            return true;
        }

        private int number(int least, int most) {
            if (kind != NUMBER) {
                refuse(CANNOT_STAND);
            } else if (value < least || value > most) {
                refuse(OUT_OF_BOUNDS);
            }
            if (fault != 0) {
                return 0;
            }
            int read = value;
            advance();
            return read;
        }

        /** Only the first fault counts: behind it the reader stands still at its token. */
        private void refuse(int why) {
            if (fault == 0) {
                fault = why;
                place = begin;
            }
        }

        private void advance() {
            while (next < size && (text[next] == ' ' || text[next] == '\n')) {
                next++;
            }
            begin = next;
            if (next >= size) {
                kind = AT_END;
            } else if (text[next] >= 'a' && text[next] <= 'z') {
                takeWord();
            } else if (text[next] >= '0' && text[next] <= '9') {
                takeNumber();
            } else {
                kind = text[next] == ';' ? SEMICOLON : STRANGE;
                next++;
            }
        }

        private void takeWord() {
            kind = WORD;
            while (next < size && text[next] >= 'a' && text[next] <= 'z') {
                next++;
            }
        }

        private void takeNumber() {
            kind = NUMBER;
            value = 0;
            while (next < size && text[next] >= '0' && text[next] <= '9') {
                value = Math.min(HUGE, value * 10 + text[next] - '0');
                next++;
            }
        }

        /** The number of the token among words with one blank between them, or NONE. */
        private int among(String words) {
            if (kind != WORD) {
                return NONE;
            }
            int length = words.length();
            int number = 0;
            int from = 0;
            while (from < length) {
                int same = 0;
                while (from + same < length && begin + same < next && words.charAt(from + same) == text[begin + same]) {
                    same++;
                }
                int to = from + same;
                if (begin + same == next && (to >= length || words.charAt(to) == ' ')) {
                    return number;
                }
                while (to < length && words.charAt(to) != ' ') {
                    to++;
                }
                from = to + 1;
                number++;
            }
            return NONE;
        }
    }

    /** The open debts, as they came. */
    private static final class Debts {
        int size;
        final int[] debtor = new int[MOST_DONE];
        final int[] creditor = new int[MOST_DONE];
        final int[] kind = new int[MOST_DONE];
        final int[] due = new int[MOST_DONE];
        final int[] came = new int[MOST_DONE];
        /** How many each house has, and (kinds) which it has to whom: so that few calls look through all. */
        final int[] open = new int[MOST_HOUSES];
        private final int[] kinds = new int[MOST_HOUSES * MOST_HOUSES];

        void clear() {
            size = 0;
            Arrays.fill(open, 0);
            Arrays.fill(kinds, 0);
        }

        void copy(Debts other) {
            size = other.size;
            System.arraycopy(other.debtor, 0, debtor, 0, size);
            System.arraycopy(other.creditor, 0, creditor, 0, size);
            System.arraycopy(other.kind, 0, kind, 0, size);
            System.arraycopy(other.due, 0, due, 0, size);
            System.arraycopy(other.came, 0, came, 0, size);
            System.arraycopy(other.open, 0, open, 0, open.length);
            System.arraycopy(other.kinds, 0, kinds, 0, kinds.length);
        }

        /** The kinds that a owes b, as bits: of each kind there is one at most. */
        int kindsOf(int a, int b) {
            return kinds[a * MOST_HOUSES + b];
        }

        void add(int a, int b, int ofKind, int dueDay, int day) {
            if (size >= MOST_DONE) {
                return;
            }
            debtor[size] = a;
            creditor[size] = b;
            kind[size] = ofKind;
            due[size] = dueDay;
            came[size] = day;
            size++;
            open[a]++;
            kinds[a * MOST_HOUSES + b] |= 1 << ofKind;
        }

        /** All of a to b of this kind or a lower one are paid: how many. */
        int settle(int a, int b, int paying) {
            int settled = kindsOf(a, b) & ((2 << paying) - 1);
            if (settled == 0) {
                return 0;
            }
            int left = 0;
            for (int i = 0; i < size; i++) {
                if (debtor[i] != a || creditor[i] != b || kind[i] > paying) {
                    move(i, left);
                    left++;
                }
            }
            int paid = size - left;
            size = left;
            open[a] -= paid;
            kinds[a * MOST_HOUSES + b] &= ~settled;
            return paid;
        }

        private void move(int i, int to) {
            debtor[to] = debtor[i];
            creditor[to] = creditor[i];
            kind[to] = kind[i];
            due[to] = due[i];
            came[to] = came[i];
        }

        /** Where the n-th debt of a stands, or NONE. */
        int nth(int a, int n) {
            if (n < 0 || n >= open[a]) {
                return NONE;
            }
            int left = n;
            for (int i = 0; i < size; i++) {
                if (debtor[i] == a) {
                    if (left == 0) {
                        return i;
                    }
                    left--;
                }
            }
            return NONE;
        }

        int overdue(int day) {
            int late = 0;
            for (int i = 0; i < size; i++) {
                if (due[i] < day) {
                    late++;
                }
            }
            return late;
        }

        int overdueTo(int b, int day) {
            int late = 0;
            for (int i = 0; i < size; i++) {
                if (creditor[i] == b && due[i] < day) {
                    late++;
                }
            }
            return late;
        }
    }

    /** All that was done, as it was done: a code of another image goes through it again. */
    private static final class Deeds {
        int size;
        final int[] who = new int[MOST_DONE];
        final int[] whom = new int[MOST_DONE];
        final int[] what = new int[MOST_DONE];
        final int[] day = new int[MOST_DONE];

        void copy(Deeds other) {
            size = other.size;
            System.arraycopy(other.who, 0, who, 0, size);
            System.arraycopy(other.whom, 0, whom, 0, size);
            System.arraycopy(other.what, 0, what, 0, size);
            System.arraycopy(other.day, 0, day, 0, size);
        }

        boolean isFull() {
            return size >= MOST_DONE;
        }

        void add(int a, int b, int deed, int today) {
            if (size < MOST_DONE) {
                who[size] = a;
                whom[size] = b;
                what[size] = deed;
                day[size] = today;
                size++;
            }
        }

        int callsBy(int a) {
            int calls = 0;
            for (int i = 0; i < size; i++) {
                if (what[i] == CALL && who[i] == a) {
                    calls++;
                }
            }
            return calls;
        }

        int callsTo(int b) {
            int calls = 0;
            for (int i = 0; i < size; i++) {
                if (what[i] == CALL && whom[i] == b) {
                    calls++;
                }
            }
            return calls;
        }
    }

    /** All that an image keeps: the tape, the slots and the latest fault are not in it. */
    private static final class State {
        final Town town = new Town();
        final Code code = new Code();
        final Debts debts = new Debts();
        final Deeds deeds = new Deeds();
        /** Whom each house knows now, as bits. */
        final int[] knows = new int[MOST_HOUSES];
        int day;
        int paid;
        /** Scratch of followCalls(): whom each house comes to by calls done, one behind the other. */
        private final int[] follows = new int[MOST_HOUSES];

        void begin(Town otherTown, Code otherCode) {
            town.copy(otherTown);
            code.copy(otherCode);
            debts.clear();
            deeds.size = 0;
            System.arraycopy(town.told, 0, knows, 0, MOST_HOUSES);
            day = 0;
            paid = 0;
        }

        void copy(State other) {
            town.copy(other.town);
            code.copy(other.code);
            debts.copy(other.debts);
            deeds.copy(other.deeds);
            System.arraycopy(other.knows, 0, knows, 0, MOST_HOUSES);
            day = other.day;
            paid = other.paid;
        }

        int knew(int a, int b) {
            return (knows[a] >> b) & 1;
        }

        private static void acquaint(int[] circle, int a, int b) {
            circle[a] |= 1 << b;
            circle[b] |= 1 << a;
        }

        int barrier(int a, int b, int paying) {
            if (!town.isThere(a, day) || !town.isThere(b, day) || !isOpenTo(a, b)) {
                return 1;
            }
            if (paying < CALL) {
                return 0;
            }
            if (day % WEEK != town.weekday[b]) {
                return 2;
            }
            return town.waits(a, day) ? 3 : 0;
        }

        private boolean isOpenTo(int a, int b) {
            if (knew(a, b) == 1 || (town.isNew(b, day) && !town.isNew(a, day))) {
                return true;
            }
            return Integer.bitCount(knows[a] & knows[b]) >= town.introducers;
        }

        int act(int a, int b, int paying) {
            int settled = deal(debts, code, a, b, paying, day, knew(a, b));
            paid += settled;
            deeds.add(a, b, paying, day);
            if (paying >= CALL) {
                acquaint(knows, a, b);
            }
            return settled;
        }

        int chance(int a, int b) {
            int strangers = 1 - knew(a, b);
            acquaint(knows, a, b);
            deeds.add(a, b, MEETING, day);
            return strangers;
        }

        /** Pays and makes debts in a book by a law: those of now, or others. */
        private int deal(Debts book, Code law, int a, int b, int paying, int on, int knew) {
            int settled = book.settle(a, b, paying);
            int line = law.lineFor(paying, town.rank[a], town.rank[b], book.open[b], on, knew);
            if (line >= 0 && !isOwed(book, b, a, law.kind[line])) {
                book.add(b, a, law.kind[line], Math.min(LAST_DAY, on + law.within[line]), on);
            }
            return settled;
        }

        private static boolean isOwed(Debts book, int a, int b, int kind) {
            return ((book.kindsOf(a, b) >> kind) & 1) == 1;
        }

        int wouldMake(int a, int b, int paying) {
            int line = code.lineFor(paying, town.rank[a], town.rank[b], debts.open[b], day, knew(a, b));
            if (line < 0 || isOwed(debts, b, a, code.kind[line])) {
                return NONE;
            }
            return code.kind[line];
        }

        /** Goes through all that was done by another law: the book has then what would be open. */
        void replay(Code law, Debts book, int[] circle) {
            book.clear();
            System.arraycopy(town.told, 0, circle, 0, MOST_HOUSES);
            for (int i = 0; i < deeds.size; i++) {
                int a = deeds.who[i];
                int b = deeds.whom[i];
                int what = deeds.what[i];
                if (what != MEETING) {
                    deal(book, law, a, b, what, deeds.day[i], (circle[a] >> b) & 1);
                }
                if (what >= CALL) {
                    acquaint(circle, a, b);
                }
            }
        }

        /** Who hang together with a, as bits, if a did not know one house (NONE: as it is). */
        int hanging(int a, int stranger) {
            int cut = stranger < 0 ? 0 : 1 << stranger;
            int all = (1 << a) | (knows[a] & ~cut);
            for (int i = 0; i < MOST_HOUSES; i++) {
                int grown = all;
                for (int b = 0; b < MOST_HOUSES; b++) {
                    if (((all >> b) & 1) == 1 && b != a) {
                        grown |= knows[b];
                    }
                }
                if (grown == all) {
                    return all;
                }
                all = grown;
            }
            return all;
        }

        boolean holdsTogether(int a, int b) {
            return ((hanging(a, b) >> b) & 1) == 0;
        }

        boolean canDrop(int a, int b) {
            return a != b && knew(a, b) == 1 && debts.kindsOf(a, b) == 0 && !holdsTogether(a, b);
        }

        void followCalls() {
            for (int a = 0; a < MOST_HOUSES; a++) {
                follows[a] = 1 << a;
            }
            for (int i = 0; i < deeds.size; i++) {
                if (deeds.what[i] >= CALL && deeds.what[i] != MEETING) {
                    follows[deeds.who[i]] |= 1 << deeds.whom[i];
                }
            }
            for (int over = 0; over < MOST_HOUSES; over++) {
                for (int a = 0; a < MOST_HOUSES; a++) {
                    if (((follows[a] >> over) & 1) == 1) {
                        follows[a] |= follows[over];
                    }
                }
            }
        }

        /** Behind followCalls(): a smallest set that nobody leaves is one in which everyone comes to everyone. */
        int ringBits(int a) {
            int set = follows[a];
            if (Integer.bitCount(set) < 2) {
                return 0;
            }
            for (int b = 0; b < MOST_HOUSES; b++) {
                if (((set >> b) & 1) == 1 && follows[b] != set) {
                    return 0;
                }
            }
            return set;
        }
    }

    /** Rounds of an afternoon: sets of houses as bits, spot by spot, by the least minutes. */
    private static final class Rounds {
        static final int MOST_SPOTS = 10;
        static final int SETS = 1 << MOST_SPOTS;
        static final int LAST_MINUTE = 180;
        static final int STAY = 15;
        static final int LATE = 1000;
        static final int NEVER = -1;

        boolean planned;
        int bestWorth;
        int bestOver;
        int length;
        final int[] order = new int[MOST_SPOTS];

        private int owner = NONE;
        private int weekday = NONE;
        private int spots;
        private final int[] spot = new int[MOST_SPOTS];
        private final int[] deadline = new int[MOST_SPOTS];
        /** By house: how it is seen, a call or a card (which stays no minute and finds an open door). */
        private final int[] opens = new int[MOST_HOUSES];
        private final int[] closes = new int[MOST_HOUSES];
        private final int[] stays = new int[MOST_HOUSES];
        private final int[] apart = new int[MOST_HOUSES * MOST_HOUSES];
        /** By set and last spot: first the least minute at which it is seen, then the latest that will do. */
        private final int[] minute = new int[SETS * MOST_SPOTS];
        private final int[] soonest = new int[SETS];
        private final int[] sums = new int[SETS];

        /** The best round of a on that day is in the fields then. */
        void plan(State s, int a, int day) {
            if (planned && owner == a && weekday == day % WEEK) {
                return;
            }
            planned = true;
            owner = a;
            weekday = day % WEEK;
            spots = 0;
            for (int b = 0; b < s.town.houses && spots < MOST_SPOTS; b++) {
                if (s.debts.kindsOf(a, b) != 0) {
                    spot[spots] = b;
                    spots++;
                }
            }
            lookAtSpots(s, a);
            reckonMinutes(a, openSpots(s, day));
            int set = bestSet(s, a);
            reckonLatest(set, bestOver);
            putInOrder(a, set);
        }

        private void lookAtSpots(State s, int a) {
            for (int i = 0; i < spots; i++) {
                int b = spot[i];
                lookAt(s, a, b);
                apart[a * MOST_HOUSES + b] = s.town.minutes(a, b);
                for (int j = 0; j < spots; j++) {
                    apart[b * MOST_HOUSES + spot[j]] = s.town.minutes(b, spot[j]);
                }
            }
        }

        private void lookAt(State s, int a, int b) {
            boolean byCall = isByCall(s, a, b);
            opens[b] = byCall ? s.town.from[b] : 0;
            closes[b] = byCall ? s.town.to[b] : LAST_MINUTE;
            stays[b] = byCall ? STAY : 0;
        }

        private static boolean isByCall(State s, int a, int b) {
            return s.debts.kindsOf(a, b) >> CALL != 0;
        }

        private static boolean isAtHome(State s, int a, int b, int day) {
            return !isByCall(s, a, b) || s.town.weekday[b] == day % WEEK;
        }

        private int openSpots(State s, int day) {
            int open = 0;
            for (int i = 0; i < spots; i++) {
                if (isAtHome(s, owner, spot[i], day)) {
                    open |= 1 << i;
                }
            }
            return open;
        }

        /** When seeing house b is over, if one comes there at that minute. */
        private int seen(int b, int arrival) {
            int over = Math.max(arrival, opens[b]) + stays[b];
            return over > closes[b] ? LATE : over;
        }

        /** For each set of the open spots, the least minute at which it can be over. */
        private void reckonMinutes(int a, int open) {
            int sets = 1 << spots;
            soonest[0] = 0;
            for (int set = 1; set < sets; set++) {
                int least = LATE;
                if ((set & ~open) == 0) {
                    for (int last = 0; last < spots; last++) {
                        if (((set >> last) & 1) == 1) {
                            int over = seen(spot[last], arrival(a, set ^ (1 << last), spot[last]));
                            minute[set * MOST_SPOTS + last] = over;
                            least = Math.min(least, over);
                        }
                    }
                }
                soonest[set] = least;
            }
        }

        /** The least minute at which one can come to b with these spots seen. */
        private int arrival(int a, int before, int b) {
            if (before == 0) {
                return apart[a * MOST_HOUSES + b];
            }
            if (soonest[before] >= LATE) {
                return LATE;
            }
            int least = LATE;
            for (int i = 0; i < spots; i++) {
                if (((before >> i) & 1) == 1) {
                    int there = minute[before * MOST_SPOTS + i] + apart[spot[i] * MOST_HOUSES + b];
                    least = Math.min(least, there);
                }
            }
            return least;
        }

        private int bestSet(State s, int a) {
            bestWorth = 0;
            bestOver = 0;
            int best = 0;
            int sets = 1 << spots;
            sums[0] = 0;
            // sets come by growing bits, so of like ones the first stays
            for (int set = 1; set < sets; set++) {
                int lowest = Integer.numberOfTrailingZeros(set);
                sums[set] = sums[set & (set - 1)] + worthOf(s.debts.kindsOf(a, spot[lowest]));
                boolean sooner = sums[set] == bestWorth && soonest[set] < bestOver;
                if (soonest[set] < LATE && (sums[set] > bestWorth || sooner)) {
                    best = set;
                    bestWorth = sums[set];
                    bestOver = soonest[set];
                }
            }
            return best;
        }

        private static int worthOf(int kinds) {
            int worth = 0;
            for (int kind = 0; kind < KINDS; kind++) {
                if (((kinds >> kind) & 1) == 1) {
                    worth += kind + 1;
                }
            }
            return worth;
        }

        /** By what is left to see and where one is: the latest minute to be over there and still in time. */
        private void reckonLatest(int set, int over) {
            for (int left = 0; left <= set; left++) {
                if ((left & ~set) == 0) {
                    for (int at = 0; at < spots; at++) {
                        if ((((set & ~left) >> at) & 1) == 1) {
                            minute[left * MOST_SPOTS + at] = left == 0 ? over : latest(left, at);
                        }
                    }
                }
            }
        }

        private int latest(int left, int at) {
            int most = NEVER;
            for (int i = 0; i < spots; i++) {
                if (((left >> i) & 1) == 1) {
                    int b = spot[i];
                    int limit = minute[(left ^ (1 << i)) * MOST_SPOTS + i];
                    int arrival = Math.min(limit, closes[b]) - stays[b];
                    if (arrival >= opens[b]) {
                        most = Math.max(most, arrival - apart[spot[at] * MOST_HOUSES + b]);
                    }
                }
            }
            return most;
        }

        /** Behind reckonLatest(): the least house from which the rest can still be seen in time goes first. */
        private void putInOrder(int a, int set) {
            length = 0;
            int left = set;
            int here = a;
            int now = 0;
            for (int step = 0; step < spots && left != 0; step++) {
                for (int i = 0; i < spots; i++) {
                    if (((left >> i) & 1) == 0) {
                        continue;
                    }
                    int over = seen(spot[i], now + apart[here * MOST_HOUSES + spot[i]]);
                    int rest = left ^ (1 << i);
                    if (over <= minute[rest * MOST_SPOTS + i]) {
                        order[length] = spot[i];
                        length++;
                        left = rest;
                        here = spot[i];
                        now = over;
                        break;
                    }
                }
            }
        }

        boolean canWalk(State s, int a, int day, Slot row) {
            int gone = 0;
            int here = a;
            int now = 0;
            for (int i = 0; i < row.size; i++) {
                int b = row.small(i);
                if (!s.town.has(b) || ((gone >> b) & 1) == 1 || s.debts.kindsOf(a, b) == 0 || !isAtHome(s, a, b, day)) {
                    return false;
                }
                lookAt(s, a, b);
                now = seen(b, now + s.town.minutes(here, b));
                if (now >= LATE) {
                    return false;
                }
                gone |= 1 << b;
                here = b;
            }
            return true;
        }

        /** In sums stand the fewest days for each set, of the days looked at so far. */
        int fewestDays(State s, int a) {
            planned = false;
            owner = a;
            gatherDeadlines(s, a);
            lookAtSpots(s, a);
            int all = (1 << spots) - 1;
            for (int set = 1; set <= all; set++) {
                sums[set] = LATE;
            }
            sums[0] = 0;
            // minutes are alike on all days, so one look does for the week
            reckonMinutes(a, all);
            for (int day = s.day; day < s.day + WEEK; day++) {
                addDay(all, openSpots(s, day) & inTime(day));
            }
            return sums[all] >= LATE ? NONE : sums[all];
        }

        /** The houses of the first ten debts; of several to one house the first due is the one to keep. */
        private void gatherDeadlines(State s, int a) {
            spots = 0;
            for (int i = 0; i < MOST_SPOTS; i++) {
                int at = s.debts.nth(a, i);
                if (at < 0) {
                    return;
                }
                int found = spots;
                for (int j = 0; j < spots; j++) {
                    if (spot[j] == s.debts.creditor[at]) {
                        found = j;
                    }
                }
                if (found == spots) {
                    spot[found] = s.debts.creditor[at];
                    deadline[found] = LAST_DAY;
                    spots++;
                }
                deadline[found] = Math.min(deadline[found], s.debts.due[at]);
            }
        }

        private int inTime(int day) {
            int open = 0;
            for (int i = 0; i < spots; i++) {
                if (day <= deadline[i]) {
                    open |= 1 << i;
                }
            }
            return open;
        }

        private void addDay(int all, int open) {
            // from the greatest set down: what is left of one is smaller, and still without this day
            for (int set = all; set > 0; set--) {
                int today = set & open;
                if (today != 0 && soonest[today] < LATE) {
                    // who sees more on a day has no more left, so smaller rounds need no look
                    sums[set] = Math.min(sums[set], sums[set ^ today] + 1);
                    continue;
                }
                for (int seen = today; seen > 0; seen = (seen - 1) & today) {
                    if (soonest[seen] < LATE) {
                        sums[set] = Math.min(sums[set], sums[set ^ seen] + 1);
                    }
                }
            }
        }

        int lostBits(State s, int a) {
            int lost = 0;
            for (int i = 0; i < MOST_SPOTS; i++) {
                int at = s.debts.nth(a, i);
                if (at >= 0 && !canBeSeen(s, a, s.debts.creditor[at], s.debts.due[at])) {
                    lost |= 1 << i;
                }
            }
            return lost;
        }

        private boolean canBeSeen(State s, int a, int b, int due) {
            lookAt(s, a, b);
            if (seen(b, s.town.minutes(a, b)) >= LATE) {
                return false;
            }
            for (int day = s.day; day < s.day + WEEK && day <= due; day++) {
                if (isAtHome(s, a, b, day)) {
                    return true;
                }
            }
            return false;
        }
    }

    /** How to come to know a house: sets of houses called on, the smallest first. */
    private static final class Ways {
        /** Of sixteen houses one calls, one is sought, and one at least is known at first. */
        static final int MOST_BETWEEN = MOST_HOUSES - 3;
        static final int SETS = 1 << MOST_BETWEEN;

        boolean sought;
        int length;
        final int[] calls = new int[MOST_HOUSES];

        private int caller = NONE;
        private int goal = NONE;
        private int between;
        private final int[] house = new int[MOST_BETWEEN];
        /** How many of those known at first know it, and which of those between, as bits. */
        private final int[] friends = new int[MOST_BETWEEN];
        private final int[] links = new int[MOST_BETWEEN];
        private final int[] queue = new int[SETS];
        /** By set: the number, from 1, of the house called on last; 0: not come to yet. */
        private final int[] latest = new int[SETS];

        /** The fewest calls of a till it knows b are in the fields then. */
        void seek(State s, int a, int b) {
            if (sought && caller == a && goal == b) {
                return;
            }
            sought = true;
            caller = a;
            goal = b;
            length = NONE;
            if (s.knew(a, b) == 1) {
                length = 0;
                return;
            }
            int reached = everyoneToKnow(s, a);
            if (((reached >> b) & 1) == 0) {
                return;
            }
            gather(s, a, reached & ~(1 << b) & ~s.knows[a]);
            search(s, a, b);
        }

        /** All whom a can come to know with any number of calls, with those it knows. */
        private static int everyoneToKnow(State s, int a) {
            int all = s.knows[a];
            for (int i = 0; i < MOST_HOUSES; i++) {
                int grown = all;
                for (int c = 0; c < s.town.houses; c++) {
                    boolean open = c != a && s.town.isThere(c, s.day);
                    if (open && Integer.bitCount(s.knows[c] & grown) >= s.town.introducers) {
                        grown |= 1 << c;
                    }
                }
                if (grown == all) {
                    return all;
                }
                all = grown;
            }
            return all;
        }

        private void gather(State s, int a, int set) {
            between = 0;
            for (int c = 0; c < s.town.houses && between < MOST_BETWEEN; c++) {
                if (((set >> c) & 1) == 1) {
                    house[between] = c;
                    friends[between] = Integer.bitCount(s.knows[c] & s.knows[a]);
                    between++;
                }
            }
            for (int i = 0; i < between; i++) {
                links[i] = linksOf(s, house[i]);
            }
        }

        private int linksOf(State s, int c) {
            int bits = 0;
            for (int i = 0; i < between; i++) {
                if (s.knew(house[i], c) == 1) {
                    bits |= 1 << i;
                }
            }
            return bits;
        }

        /** Sets are queued in the order of their least rows of calls, so the first that will do is the least. */
        private void search(State s, int a, int b) {
            int needed = s.town.introducers;
            int friendsOfGoal = Integer.bitCount(s.knows[b] & s.knows[a]);
            int linksOfGoal = linksOf(s, b);
            for (int set = 0; set < 1 << between; set++) {
                latest[set] = 0;
            }
            queue[0] = 0;
            int queued = 1;
            for (int i = 0; i < queued && i < SETS; i++) {
                int set = queue[i];
                if (friendsOfGoal + Integer.bitCount(linksOfGoal & set) >= needed) {
                    tell(set, b);
                    return;
                }
                for (int c = 0; c < between; c++) {
                    int more = set | (1 << c);
                    boolean fresh = more != set && latest[more] == 0;
                    if (fresh && queued < SETS && friends[c] + Integer.bitCount(links[c] & set) >= needed) {
                        latest[more] = c + 1;
                        queue[queued] = more;
                        queued++;
                    }
                }
            }
        }

        private void tell(int set, int b) {
            length = Integer.bitCount(set) + 1;
            calls[length - 1] = b;
            int left = set;
            for (int i = length - 2; i >= 0 && left != 0; i--) {
                int c = latest[left] - 1;
                if (c < 0) {
                    return;
                }
                calls[i] = house[c];
                left ^= 1 << c;
            }
        }
    }
}
