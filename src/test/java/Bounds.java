import java.io.IOException;
import java.nio.charset.StandardCharsets;
import java.nio.file.Files;
import java.nio.file.Path;
import java.nio.file.Paths;
import java.util.Set;
import java.util.TreeSet;

/** Tests of boundary cases: each stands under the words of the document that name it. */
final class Bounds {
    static final int NOTHING = -2_000_000_000;
    static final String[] WEEKDAYS = {"sun", "mon", "tue", "wed", "thu", "fri", "sat"};
    static final String[] PAYINGS = {"sent", "card", "call", "dinner"};
    /** What a paying makes owed is of its own kind. */
    static final String LIKE_FOR_LIKE = "sent owes sent within 9;card owes card within 9;call owes call within 9;"
        + "dinner owes dinner within 9;";
    /** Numbers that are no house, no slot, no image and no what, whatever there is. */
    static final int[] FAR_OFF = {-1, Integer.MIN_VALUE, Integer.MAX_VALUE, 1 << 16, -(1 << 31) + 1};
    private static final String[] TERMS = {"I", "II", "III", "IV", "V", "VI"};

    private final Check check;
    private final String document;
    private final Set<String> met = new TreeSet<>();
    private String sentence = "";
    private boolean looked = true;

    Bounds(String name) {
        check = new Check(name);
        document = read(Paths.get("../shared/DOC.md"));
    }

    /** The document, or nothing: the answers are due also where it can't be read, the words are looked up where it can. */
    private static String read(Path file) {
        try {
            return Files.readString(file, StandardCharsets.UTF_8);
        } catch (IOException e) {
            System.out.println("no " + file + ": the words quoted are not looked up");
            return "";
        }
    }

    /** What follows is due by these words of a Term. */
    void term(String number, String words) {
        begin("Term " + number, words, termText(number));
    }

    /** What follows is due by these words of a promise. */
    void promise(int number, String words) {
        String head = "## Promise " + number + ":";
        int from = document.indexOf(head);
        begin("promise " + number, words, from < 0 ? "" : upTo(from, "\n## "));
    }

    private String termText(String number) {
        int from = document.indexOf("\n" + number + ". ");
        for (int i = 0; i + 1 < TERMS.length; i++) {
            if (TERMS[i].equals(number)) {
                return from < 0 ? "" : upTo(from, "\n" + TERMS[i + 1] + ". ");
            }
        }
        return from < 0 ? "" : upTo(from, "\n## ");
    }

    private String upTo(int from, String next) {
        int to = document.indexOf(next, from + 1);
        return document.substring(from, to < 0 ? document.length() : to);
    }

    private void begin(String section, String words, String text) {
        check.isTrue("something is looked at under: " + sentence, looked);
        looked = false;
        met.add(section);
        sentence = section + ", \"" + words + "\": ";
        check.isTrue("the document has " + sentence, document.isEmpty() || text.contains(words));
    }

    void due(String call, long got, long want) {
        looked = true;
        check.due(sentence + call, got, want);
    }

    /** A text without fault, with so many houses. */
    CardBowl good(String text, int houses) {
        CardBowl x = new CardBowl();
        due("town of " + text, Check.town(x, text), houses);
        due("fault(0) of " + text, x.fault(0), 0);
        due("fault(1) of " + text, x.fault(1), -1);
        return x;
    }

    void faulty(String text, int kind, int place) {
        CardBowl x = new CardBowl();
        due("town of " + text, Check.town(x, text), -4);
        due("fault(0) of " + text, x.fault(0), kind);
        due("fault(1) of " + text, x.fault(1), place);
    }

    /** The text up to the mark | and what is behind it; the fault is at the mark. */
    void faultyAt(int kind, String text) {
        int place = text.indexOf('|');
        faulty(text.substring(0, place) + text.substring(place + 1), kind, place);
    }

    /** count(0) .. count(10), compared with what is due. */
    void counts(String when, CardBowl x, int... want) {
        for (int what = 0; what < want.length; what++) {
            due("count(" + what + ") " + when, x.count(what), want[what]);
        }
    }

    void finish(String... sections) {
        check.isTrue("something is looked at under: " + sentence, looked);
        for (String section : sections) {
            check.isTrue("a test of " + section, met.contains(section));
        }
        check.finish();
    }

    static String home(int weekday, int from, int to) {
        return at(0, 0, weekday, from, to);
    }

    static String at(int x, int y, int weekday, int from, int to) {
        return "house at " + x + " " + y + " rank 1 home " + WEEKDAYS[weekday] + " " + from + " " + to + ";";
    }

    static String ranked(int rank) {
        return "house at 0 0 rank " + rank + " home sun 0 180;";
    }

    static String houses(int n) {
        return ranked(1).repeat(n);
    }

    /** A house at home on that weekday, with what stands behind its minutes. */
    static String with(int weekday, String rest) {
        return "house at 0 0 rank 1 home " + WEEKDAYS[weekday] + " 0 180 " + rest + ";";
    }

    static String know(int... pairs) {
        StringBuilder b = new StringBuilder();
        for (int i = 0; i + 1 < pairs.length; i += 2) {
            b.append("know ").append(pairs[i]).append(' ').append(pairs[i + 1]).append(';');
        }
        return b.toString();
    }

    static void go(CardBowl x, int day) {
        while (x.count(2) < day) {
            x.days(Math.min(60, day - x.count(2)));
        }
    }

    /** An object that has so many done: meetings of 0 and 1, twenty a call. */
    static void meetTimes(CardBowl x, int times) {
        x.row(3, 0, 60);
        for (int i = 0; i < 20; i++) {
            x.write(3, 3 * i + 1, 1);
            x.write(3, 3 * i + 2, 4);
        }
        for (int i = 0; i < times / 20; i++) {
            x.done(3);
        }
        for (int i = 0; i < times % 20; i++) {
            x.meet(0, 1);
        }
    }
}
