/** What all tests share: answers compared with those that are due, and towns told as texts. */
final class Check {
    private final String name;
    private int wrong;
    private int looked;

    Check(String name) {
        this.name = name;
    }

    void due(String call, long got, long want) {
        looked++;
        if (got != want) {
            wrong++;
            System.out.println(name + ": " + call + " answered " + got + ", due is " + want);
        }
    }

    void isTrue(String what, boolean holds) {
        looked++;
        if (!holds) {
            wrong++;
            System.out.println(name + ": " + what + " does not hold");
        }
    }

    boolean hasWrong() {
        return wrong > 0;
    }

    void finish() {
        System.out.println(name + ": " + looked + " looked at, " + wrong + " wrong");
        if (wrong > 0 || looked == 0) {
            System.exit(1);
        }
    }

    /** Feeds a text (signs 0 .. 255), and cuts the tape behind it. */
    static void feed(CardBowl x, String text) {
        int had = x.count(7);
        for (int i = 0; i < text.length(); i += 20) {
            int[] numbers = new int[5];
            for (int j = 0; j < 20; j++) {
                int sign = i + j < text.length() ? text.charAt(i + j) : 0;
                numbers[j / 4] = numbers[j / 4] << 8 | sign;
            }
            x.feed(numbers[0], numbers[1], numbers[2], numbers[3], numbers[4]);
        }
        x.end(had + text.length());
    }

    static int town(CardBowl x, String text) {
        feed(x, text);
        return x.town();
    }

    /** A new object with a town; the text must be without fault. */
    static CardBowl with(String text) {
        CardBowl x = new CardBowl();
        int houses = town(x, text);
        if (houses < 0) {
            throw new IllegalStateException("fault " + x.fault(0) + " at " + x.fault(1) + " in: " + text);
        }
        return x;
    }

    static void row(CardBowl x, int slot, long... numbers) {
        x.row(slot, 3, numbers.length);
        for (int i = 0; i < numbers.length; i++) {
            x.write(slot, i, numbers[i]);
        }
    }
}
