/** What many tests do to a net. */
final class Nets {
    private Nets() {
    }

    /** Puts a text on the tape, byte by byte; the last answer of feed(). */
    static int feed(OneNet x, String text) {
        int last = 0;
        for (int i = 0; i < text.length(); i++) {
            last = x.feed(1, text.charAt(i), 0, 0, 0, 0);
        }
        return last;
    }

    /** Reads a text; the answer of text(). */
    static int read(OneNet x, String text) {
        feed(x, text);
        return x.text();
    }

    /** Makes a text the law; fails, if it is none. */
    static void obey(OneNet x, String text) {
        int t = read(x, text);
        if (t < 0 || x.force(t) < 0) {
            throw new IllegalStateException("no text: " + text + " (" + t + ")");
        }
    }

    /** A net without any cord, in which nothing is tied. */
    static OneNet bare() {
        OneNet x = new OneNet();
        for (int a = 0; a < 20; a++) {
            x.tie(a, 0);
            x.cord(a, a + 1, 0);
            x.cord(a, a + 5, 0);
        }
        return x;
    }

    /** A sheet of ints that holds the numbers given. */
    static void fill(OneNet x, int s, int sort, int... numbers) {
        x.sheet(s, sort, numbers.length);
        for (int i = 0; i < numbers.length; i++) {
            x.cell(s, i, numbers[i]);
        }
    }

    static boolean areBeside(int a, int b) {
        if (a < 0 || b < 0 || a > 19 || b > 19) {
            return false;
        }
        return Math.abs(a / 5 - b / 5) + Math.abs(a % 5 - b % 5) == 1;
    }
}
