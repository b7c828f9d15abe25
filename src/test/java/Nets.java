/** What many tests do to a net. */
final class Nets {
    private Nets() {
    }

    /** Puts a text on the tape. */
    static void feed(OneNet x, String text) {
        Calls.made(x, Calls.feeding(text));
    }

    /** Reads a text; the answer of text(). */
    static int read(OneNet x, String text) {
        feed(x, text);
        return x.text();
    }

    /** Makes a text the law; fails, if it is none. */
    static void obey(OneNet x, String text) {
        int t = read(x, text);
        if (t < 0 || x.force(t) < 0) {
            throw new IllegalStateException("no text: " + text + " (" + t + ")");
        }
    }

    /** Makes a text that says just how strong a turn is felt the law. */
    static void obeyFelt(OneNet x, String felt) {
        obey(x, "felt " + felt + "; slope 0; bears 0;");
    }

    /** A net without any cord, in which nothing is tied. */
    static OneNet bare() {
        OneNet x = new OneNet();
        for (int a = 0; a < 20; a++) {
            x.tie(a, 0);
            x.cord(a, a + 1, 0);
            x.cord(a, a + 5, 0);
        }
        return x;
    }

    /** A sheet of ints that holds the numbers given. */
    static void fill(OneNet x, int s, int sort, int... numbers) {
        x.sheet(s, sort, numbers.length);
        for (int i = 0; i < numbers.length; i++) {
            x.cell(s, i, numbers[i]);
        }
    }

    static boolean areBeside(int a, int b) {
        if (a < 0 || b < 0 || a > 19 || b > 19) {
            return false;
        }
        return Math.abs(a / 5 - b / 5) + Math.abs(a % 5 - b % 5) == 1;
    }

    /** A net with the cords 0 - 1 - 2 - 3 - 4 alone, and sleepers at knots; who lies no farther than 1 off wakes. */
    static OneNet row(int... knots) {
        OneNet x = bare();
        for (int k = 0; k < 4; k++) {
            x.cord(k, k + 1, 1);
        }
        for (int knot : knots) {
            x.sleeper(0, 50, knot);
        }
        obeyFelt(x, "(far < 2) * 10");
        return x;
    }

    /** Lets in so few as can be who together WEIGH so much, at a knot: each 132, or 66, or less. */
    static void weighDown(OneNet x, int knot, int weight) {
        for (int left = weight; left > 0; ) {
            int own = left >= 132 ? 132 : Math.min(66, left);
            int more = own == 132 ? 9 : Math.max(0, (own - 27) / 4);
            x.sleeper(own == 132 ? 3 : 1, own == 132 ? 309 : 10 * (own - 4 * more) + more, knot);
            left -= own;
        }
    }
}
