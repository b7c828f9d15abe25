/** Promises 13 to 15: depth, pull, hang. */
public final class HangTest {
    private static final Due DUE = new Due("HangTest");

    public static void main(String[] args) {
        rounds();
        bounds();
        sharing();
        pulls();
        tearing();
        DUE.end();
    }

    private static void rounds() {
        // Knots 1 and 2 by the rounds: 66 0, 66 66, 99 66, 99 99, 115 99, 115 115, 123 115, 123 123,
        // 127 123, 127 127, 129 127, 129 129, 130 129: the twelfth counts.
        OneNet x = Nets.bare();
        x.tie(0, 1);
        x.cord(0, 1, 1);
        x.cord(1, 2, 1);
        x.sleeper(3, 309, 1);
        DUE.is("13: a TIED knot", x.depth(0), 0);
        DUE.is("13: behind 12 rounds", x.depth(1), 129);
        DUE.is("13: behind 12 rounds", x.depth(2), 129);
        DUE.is("13: a knot without a cord", x.depth(5), 999);
        DUE.is("13: asked again", x.depth(1), 129);
        DUE.is("13: depth(20)", x.depth(20), -5);
        DUE.is("13: depth(-1)", x.depth(-1), -5);
        DUE.is("15: the first DEEPEST", x.hang(1), 3);
        DUE.is("15: all together", x.hang(3), 129 + 129 + 17 * 999);
    }

    private static void bounds() {
        OneNet x = Nets.bare();
        x.cord(6, 7, 1);
        x.tie(12, 1);
        for (int s = 0; s < 6; s++) {
            x.sleeper(3, 309, s < 3 ? 7 : 12);
        }
        DUE.is("13: 999 at most", x.depth(7), 999);
        DUE.is("13: 999 at most", x.depth(6), 999);
        DUE.is("13: TIED without a cord", x.depth(12), 0);
        x.tie(7, 1);
        DUE.is("13: TIED, and somebody there", x.depth(7), 0);
        DUE.is("13: beside it", x.depth(6), 0);
    }

    private static void sharing() {
        OneNet x = Nets.bare();
        for (int k = 0; k < 20; k++) {
            x.tie(k, k == 7 ? 0 : 1);
        }
        x.cord(7, 2, 1);
        x.cord(7, 6, 1);
        x.cord(7, 8, 1);
        x.sleeper(0, 100, 7);
        x.sleeper(1, 11, 7);
        DUE.is("13: 15 by 3 cords", x.depth(7), 5);
        x.cord(7, 12, 1);
        DUE.is("13: 15 by 4 cords, cut", x.depth(7), 3);
        x.lie(0, 8);
        DUE.is("13: 5 by 4 cords", x.depth(7), 1);
    }

    private static void pulls() {
        OneNet x = Nets.bare();
        x.tie(0, 1);
        x.cord(0, 1, 1);
        x.sleeper(0, 100, 1);
        DUE.is("14: pull(0, 1)", x.pull(0, 1), 10);
        DUE.is("14: pull(1, 0)", x.pull(1, 0), 10);
        DUE.is("14: no cord", x.pull(1, 2), 0);
        DUE.is("14: not beside", x.pull(0, 2), -5);
        DUE.is("14: not beside", x.pull(4, 5), -5);
        DUE.is("14: no such knot", x.pull(0, -5), -5);
        DUE.is("14: no such knot", x.pull(15, 20), -5);
    }

    private static int torn(OneNet x, String bears) {
        Nets.obey(x, "felt 0; slope 0; bears " + bears + ";");
        return x.hang(2);
    }

    private static void tearing() {
        OneNet x = Nets.bare();
        for (int k = 0; k < 20; k++) {
            x.tie(k, k == 6 ? 0 : 1);
        }
        x.cord(6, 5, 1);
        x.cord(6, 7, 1);
        x.sleeper(0, 10, 5);
        x.sleeper(1, 31, 6);
        x.sleeper(0, 100, 6);
        x.sleeper(0, 20, 12);
        // At 6 lie 7 + 10, at 5 lies 1: 17 by two cords is 8.
        DUE.is("15: how DEEP the DEEPEST is", x.hang(0), 8);
        DUE.is("15: the DEEPEST", x.hang(1), 6);
        DUE.is("15: together", x.hang(3), 8);
        DUE.is("15: none by TEXT 0", x.hang(2), 0);
        DUE.is("15: hang(4)", x.hang(4), OneNet.BAD);
        DUE.is("15: hang(-1)", x.hang(-1), OneNet.BAD);
        DUE.is("15: bears just the pull", torn(x, "8"), 0);
        DUE.is("15: bears one less", torn(x, "7"), 2);
        DUE.is("15: the lesser knot", torn(x, "7 + (knot = 5)"), 1);
        DUE.is("15: the lesser knot, of the other", torn(x, "7 + (knot = 6)"), 1);
        DUE.is("15: what lies at both", torn(x, "7 + (weight = 18)"), 1);
        x = new OneNet();
        x.cord(0, 1, 0);
        x.cord(0, 5, 0);
        x.tie(0, 0);
        x.sleeper(0, 300, 9);
        // Knot 9 hangs from 4, 8, 14: what the text says is all that holds its cords.
        int pulled = (x.pull(4, 9) > 0 ? 1 : 0) + (x.pull(8, 9) > 0 ? 1 : 0) + (x.pull(9, 14) > 0 ? 1 : 0);
        DUE.is("15: three pull", pulled, 3);
        DUE.is("15: told, more, far, who are 0", torn(x, "999 * (told + more + far + who = 0)"), 0);
        DUE.isTrue("15: 0 bears nothing", torn(x, "told + more + far + who") >= 3);
    }
}
