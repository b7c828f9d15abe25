/** Promises 13 to 15: depth, pull, hang. */
public final class HangTest {
    private static final Due DUE = new Due("HangTest");

    public static void main(String[] args) {
        rounds();
        bounds();
        sharing();
        pulls();
        tearing();
        allAtOnce();
        cutTogether();
        mostDepth();
        everyKnotDeepest();
        everyCordTears();
        namesOfBears();
        DUE.end();
    }

    private static void rounds() {
        // Knots 1 and 2 by the rounds: 66 0, 66 66, 99 66, 99 99, 115 99, 115 115, 123 115, 123 123,
        // 127 123, 127 127, 129 127, 129 129, 130 129: the twelfth counts.
        OneNet x = Nets.bare();
        x.tie(0, 1);
        x.cord(0, 1, 1);
        x.cord(1, 2, 1);
        x.sleeper(3, 309, 1);
        DUE.is("13: a TIED knot", x.depth(0), 0);
        DUE.is("13: behind 12 rounds", x.depth(1), 129);
        DUE.is("13: behind 12 rounds", x.depth(2), 129);
        DUE.is("13: a knot without a cord", x.depth(5), 999);
        DUE.is("13: asked again", x.depth(1), 129);
        DUE.is("13: depth(20)", x.depth(20), -5);
        DUE.is("13: depth(-1)", x.depth(-1), -5);
        DUE.is("15: the first DEEPEST", x.hang(1), 3);
        DUE.is("15: all together", x.hang(3), 129 + 129 + 17 * 999);
    }

    private static void bounds() {
        OneNet x = Nets.bare();
        x.cord(6, 7, 1);
        x.tie(12, 1);
        for (int s = 0; s < 6; s++) {
            x.sleeper(3, 309, s < 3 ? 7 : 12);
        }
        DUE.is("13: 999 at most", x.depth(7), 999);
        DUE.is("13: 999 at most", x.depth(6), 999);
        DUE.is("13: TIED without a cord", x.depth(12), 0);
        x.tie(7, 1);
        DUE.is("13: TIED, and somebody there", x.depth(7), 0);
        DUE.is("13: beside it", x.depth(6), 0);
    }

    private static void sharing() {
        OneNet x = Nets.bare();
        for (int k = 0; k < 20; k++) {
            x.tie(k, k == 7 ? 0 : 1);
        }
        x.cord(7, 2, 1);
        x.cord(7, 6, 1);
        x.cord(7, 8, 1);
        x.sleeper(0, 100, 7);
        x.sleeper(1, 11, 7);
        DUE.is("13: 15 by 3 cords", x.depth(7), 5);
        x.cord(7, 12, 1);
        DUE.is("13: 15 by 4 cords, cut", x.depth(7), 3);
        x.lie(0, 8);
        DUE.is("13: 5 by 4 cords", x.depth(7), 1);
    }

    private static void pulls() {
        OneNet x = Nets.bare();
        x.tie(0, 1);
        x.cord(0, 1, 1);
        x.sleeper(0, 100, 1);
        DUE.is("14: pull(0, 1)", x.pull(0, 1), 10);
        DUE.is("14: pull(1, 0)", x.pull(1, 0), 10);
        DUE.is("14: no cord", x.pull(1, 2), 0);
        DUE.is("14: not beside", x.pull(0, 2), -5);
        DUE.is("14: not beside", x.pull(4, 5), -5);
        DUE.is("14: no such knot", x.pull(0, -5), -5);
        DUE.is("14: no such knot", x.pull(15, 20), -5);
        OneNet all = new OneNet();
        for (int a = -1; a < 21; a++) {
            for (int b = -1; b < 21; b++) {
                DUE.is("14: pull(" + a + ", " + b + ")", all.pull(a, b), Nets.areBeside(a, b) ? 0 : -5);
            }
        }
        for (int k : new int[] {Integer.MIN_VALUE, Integer.MAX_VALUE}) {
            DUE.is("14: pull(" + k + ", 1)", all.pull(k, 1), -5);
            DUE.is("14: pull(1, " + k + ")", all.pull(1, k), -5);
        }
    }

    private static int torn(OneNet x, String bears) {
        Nets.obey(x, "felt 0; slope 0; bears " + bears + ";");
        return x.hang(2);
    }

    private static void tearing() {
        OneNet x = Nets.bare();
        for (int k = 0; k < 20; k++) {
            x.tie(k, k == 6 ? 0 : 1);
        }
        x.cord(6, 5, 1);
        x.cord(6, 7, 1);
        x.sleeper(0, 10, 5);
        x.sleeper(1, 31, 6);
        x.sleeper(0, 100, 6);
        x.sleeper(0, 20, 12);
        // At 6 lie 7 + 10, at 5 lies 1: 17 by two cords is 8.
        DUE.is("15: how DEEP the DEEPEST is", x.hang(0), 8);
        DUE.is("15: the DEEPEST", x.hang(1), 6);
        DUE.is("15: together", x.hang(3), 8);
        DUE.is("15: none by TEXT 0", x.hang(2), 0);
        DUE.is("15: hang(4)", x.hang(4), OneNet.BAD);
        DUE.is("15: hang(-1)", x.hang(-1), OneNet.BAD);
        DUE.is("15: bears just the pull", torn(x, "8"), 0);
        DUE.is("15: bears one less", torn(x, "7"), 2);
        DUE.is("15: the lesser knot", torn(x, "7 + (knot = 5)"), 1);
        DUE.is("15: the lesser knot, of the other", torn(x, "7 + (knot = 6)"), 1);
        DUE.is("15: what lies at both", torn(x, "7 + (weight = 18)"), 1);
        x = new OneNet();
        x.cord(0, 1, 0);
        x.cord(0, 5, 0);
        x.tie(0, 0);
        x.sleeper(0, 300, 9);
        // Knot 9 hangs from 4, 8, 14: what the text says is all that holds its cords.
        int pulled = (x.pull(4, 9) > 0 ? 1 : 0) + (x.pull(8, 9) > 0 ? 1 : 0) + (x.pull(9, 14) > 0 ? 1 : 0);
        DUE.is("15: three pull", pulled, 3);
        DUE.is("15: told, more, far, who are 0", torn(x, "999 * (told + more + far + who = 0)"), 0);
        DUE.isTrue("15: 0 bears nothing", torn(x, "told + more + far + who") >= 3);
    }

    private static void allAtOnce() {
        // Knots 0 and 1 by the rounds: 10 0, 10 10, 20 10, 20 20, .., 60 50, 60 60.
        for (int own = 0; own < 2; own++) {
            OneNet x = Nets.bare();
            x.cord(0, 1, 1);
            x.sleeper(0, 100, own);
            DUE.is("13: by what was ahead, lying at " + own, x.depth(0), 60);
            DUE.is("13: by what was ahead, lying at " + own, x.depth(1), 60);
        }
    }

    private static void cutTogether() {
        // Knots 6 and 7 by the rounds: 1 0, 1 1, 2 1, and so on: 1 and 2 together by two cords is 1.
        OneNet x = Nets.bare();
        x.tie(8, 1);
        x.cord(6, 7, 1);
        x.cord(7, 8, 1);
        x.sleeper(0, 10, 6);
        x.sleeper(0, 10, 7);
        DUE.is("13: the knot with one cord", x.depth(6), 2);
        DUE.is("13: weight and depths are cut together", x.depth(7), 1);
    }

    private static void mostDepth() {
        OneNet x = Nets.bare();
        x.tie(2, 1);
        x.cord(0, 1, 1);
        x.cord(1, 2, 1);
        Nets.weighDown(x, 0, 507);
        x.sleeper(0, 10, 2);
        // Round by round knot 0 is 507, 507, 760, 760, 887, 887, 950, 950, 982, 982, 998, 998.
        DUE.is("13: 998", x.depth(0), 998);
        DUE.is("13: half of the round ahead", x.depth(1), 499);
        DUE.is("14: 998 and 499", x.pull(0, 1), 499);
        DUE.is("14: 499 and 998", x.pull(1, 0), 499);
        DUE.is("14: 499 and 0", x.pull(1, 2), 499);
        DUE.is("15: both are above 60", x.hang(2), 2);
        x.lie(5, 1);
        DUE.is("13: just 999", x.depth(0), 999);
        DUE.is("13: half of 1000", x.depth(1), 500);
        DUE.is("14: 999 and 500", x.pull(0, 1), 499);
        x.lie(5, 0);
        DUE.is("13: 1000 is 999 at most", x.depth(0), 999);
        DUE.is("13: half of 999, in each round", x.depth(1), 499);
        DUE.is("15: nothing is deeper", x.hang(0), 999);
        for (int k = 3; k < 20; k++) {
            DUE.is("13: a knot without a cord", x.depth(k), 999);
            x.tie(k, 1);
            DUE.is("13: TIED, without a cord", x.depth(k), 0);
        }
        // Knots 0 and 1 alone: six times what lies there, 996, and 1002.
        OneNet y = Nets.bare();
        y.cord(0, 1, 1);
        Nets.weighDown(y, 0, 166);
        DUE.is("13: 996", y.depth(0), 996);
        DUE.is("13: 996", y.depth(1), 996);
        y.sleeper(0, 10, 0);
        DUE.is("13: 1002 is 999 at most", y.depth(0), 999);
        DUE.is("13: 1002 is 999 at most", y.depth(1), 999);
    }

    /** Each knot in its turn is the only one that is not TIED, and hangs by one cord. */
    private static void everyKnotDeepest() {
        for (int k = 0; k < 20; k++) {
            OneNet x = Nets.bare();
            for (int other = 0; other < 20; other++) {
                x.tie(other, other == k ? 0 : 1);
            }
            int beside = k % 5 == 4 ? k - 1 : k + 1;
            DUE.is("15: the only DEEPEST, without a cord", x.hang(1), k);
            DUE.is("15: how DEEP it is, without a cord", x.hang(0), 999);
            x.cord(k, beside, 1);
            DUE.is("15: all alike, the first", x.hang(1), 0);
            DUE.is("15: nothing is DEEP", x.hang(3), 0);
            x.sleeper(0, 10, k);
            DUE.is("13: how DEEP it is", x.depth(k), 1);
            DUE.is("15: the only DEEPEST", x.hang(1), k);
            DUE.is("15: how DEEP it is", x.hang(0), 1);
            DUE.is("15: all together", x.hang(3), 1);
            DUE.is("14: what its cord pulls", x.pull(k, beside), 1);
        }
        OneNet x = Nets.bare();
        DUE.is("15: 20 times 999", x.hang(3), 19980);
        DUE.is("15: of like ones the first", x.hang(1), 0);
        x.tie(0, 1);
        DUE.is("15: of like ones the first", x.hang(1), 1);
    }

    /** By each cord alone hangs a knot with a weight of 24: it bears 24, and would tear by 23. */
    private static void everyCordTears() {
        for (int a = 0; a < 20; a++) {
            for (int b = a + 1; b < 20; b++) {
                for (int low = a; Nets.areBeside(a, b) && low <= b; low += b - a) {
                    OneNet x = Nets.bare();
                    for (int k = 0; k < 20; k++) {
                        x.tie(k, k == low ? 0 : 1);
                    }
                    x.cord(a, b, 1);
                    x.sleeper(0, 240, low);
                    String cord = a + " to " + b;
                    DUE.is("15: bears what it pulls, " + cord, torn(x, "24 * (knot = " + a + ")"), 0);
                    DUE.is("15: bears one less, " + cord, torn(x, "99 - 76 * (knot = " + a + ")"), 1);
                }
            }
        }
    }

    private static void namesOfBears() {
        OneNet x = Nets.bare();
        x.cord(0, 1, 1);
        x.tie(0, 1);
        x.sleeper(3, 309, 1);
        x.sleeper(3, 309, 0);
        x.asks(0, 999, 20, 999, 199);
        DUE.is("15: told is 0, whatever was asked ahead", torn(x, "999 * (told = 0)"), 0);
        x.asks(0, 999, 20, 999, 199);
        DUE.is("15: more is 0", torn(x, "999 * (more = 0)"), 0);
        x.felt(0, 1);
        DUE.is("15: far is 0", torn(x, "999 * (far = 0)"), 0);
        x.asks(0, 999, 20, 999, 199);
        DUE.is("15: who is 0", torn(x, "999 * (who = 0)"), 0);
        x.asks(0, 999, 20, 999, 199);
        DUE.is("15: weight of both", torn(x, "999 * (weight = 264)"), 0);
        OneNet y = Nets.bare();
        y.cord(0, 1, 1);
        DUE.is("15: what does not pull does not tear by 0", torn(y, "0"), 0);
    }
}
