/** Promises 18 to 21: felt, wakes, night, woken. */
public final class TurnTest {
    private static final Due DUE = new Due("TurnTest");

    public static void main(String[] args) {
        kinds();
        names();
        ways();
        waking();
        spreading();
        leastAndMostTurns();
        noWay();
        justEnough();
        roundsOfFew();
        roundsOfSix();
        allOrNobody();
        DUE.end();
    }

    private static void kinds() {
        int[] strong = {10, 10, 10, 13, 20, 4};
        for (int kind = 0; kind < 6; kind++) {
            OneNet x = new OneNet();
            x.sleeper(0, 50, 7);
            x.sleeper(kind, 53, 8);
            Nets.obeyFelt(x, "10");
            DUE.is("18: a turn of kind " + kind, x.felt(0, 1), strong[kind]);
        }
        OneNet x = new OneNet();
        x.sleeper(0, 50, 7);
        x.sleeper(5, 59, 8);
        Nets.obeyFelt(x, "10");
        DUE.is("18: 0 at least", x.felt(0, 1), 0);
        Nets.obeyFelt(x, "500");
        DUE.is("18: 99 at most, twice MORE less", x.felt(0, 1), 81);
    }

    private static void names() {
        OneNet x = new OneNet();
        x.sleeper(1, 83, 12);
        x.sleeper(0, 56, 8);
        int[] heard = {5, 6, 2, 20, 12, 0};
        int[] other = {8, 3, 2, 5, 8, 1};
        String[] names = {"told", "more", "far", "weight", "knot", "who"};
        for (int i = 0; i < 6; i++) {
            if (x.count(3) == 6) {
                x = new OneNet();
                x.sleeper(1, 83, 12);
                x.sleeper(0, 56, 8);
            }
            Nets.obeyFelt(x, names[i]);
            DUE.is("18: 0 feels 1, felt " + names[i], x.felt(0, 1), heard[i]);
            DUE.is("18: 1 feels 0, felt " + names[i], x.felt(1, 0), other[i]);
        }
        DUE.is("18: alike", x.felt(0, 0), -5);
        DUE.is("18: no such one", x.felt(0, 2), -5);
        DUE.is("18: no such one", x.felt(2, 0), -5);
        DUE.is("18: no such one", x.felt(-1, 0), -5);
        DUE.is("18: no such one", x.felt(0, -1), -5);
    }

    private static void ways() {
        OneNet x = Nets.bare();
        x.sleeper(0, 50, 0);
        x.sleeper(0, 50, 1);
        x.sleeper(0, 50, 0);
        Nets.obeyFelt(x, "50 + far");
        DUE.is("18: no way", x.felt(0, 1), 0);
        DUE.is("18: the same knot, without a cord", x.felt(0, 2), 50);
        x.cord(0, 5, 1);
        x.cord(5, 6, 1);
        x.cord(6, 1, 1);
        DUE.is("18: round about", x.felt(0, 1), 53);
        DUE.is("18: round about, the other way", x.felt(1, 0), 53);
        x.cord(0, 1, 1);
        DUE.is("18: the fewest", x.felt(0, 1), 51);
        x.cord(0, 1, 0);
        x.cord(5, 6, 0);
        DUE.is("18: no way any more", x.felt(0, 1), 0);
        // A snake through all 20 knots.
        OneNet y = Nets.bare();
        for (int k = 0; k < 20; k++) {
            y.cord(k, k + 1, 1);
        }
        y.cord(4, 9, 1);
        y.cord(5, 10, 1);
        y.cord(14, 19, 1);
        y.sleeper(0, 50, 0);
        y.sleeper(0, 50, 15);
        Nets.obeyFelt(y, "far");
        DUE.is("18: 19 cords", y.felt(0, 1), 19);
    }

    private static void waking() {
        OneNet x = new OneNet();
        x.sleeper(0, 50, 7);
        x.sleeper(0, 50, 8);
        x.sleeper(2, 53, 8);
        x.sleeper(5, 50, 9);
        Nets.obeyFelt(x, "10");
        DUE.is("19: just what it needs", x.wakes(0, 0), 2 + 4 + 8);
        DUE.is("21: by three others", x.woken(0), 3);
        DUE.is("20: night()", x.night(), 12);
        Nets.obeyFelt(x, "9");
        DUE.is("19: one less than a SLEEPER needs", x.wakes(0, 0), 4 + 8);
        DUE.is("21: woken(0)", x.woken(0), 0);
        DUE.is("21: woken(3)", x.woken(3), 3);
        DUE.is("20: night()", x.night(), 6);
        Nets.obeyFelt(x, "6");
        DUE.is("19: a THIN with MORE 3 needs 7", x.wakes(0, 0), 8);
        Nets.obeyFelt(x, "4");
        DUE.is("19: nobody", x.wakes(0, 0), 0);
        DUE.is("19: nobody, in no round", x.wakes(0, 2), 0);
        DUE.is("20: night()", x.night(), 0);
        DUE.is("19: no such one", x.wakes(4, 9), -5);
        DUE.is("19: no such one", x.wakes(-1, 0), -5);
        DUE.is("19: what 3", x.wakes(0, 3), -7);
        DUE.is("19: what -1", x.wakes(0, -1), -7);
        DUE.is("21: no such one", x.woken(4), -5);
        DUE.is("21: no such one", x.woken(-1), -5);
        DUE.is("20: nobody there", new OneNet().night(), 0);
    }

    private static void spreading() {
        OneNet x = Nets.row(0, 1, 2, 3);
        int[] first = {2, 5, 10, 4};
        int[] all = {14, 13, 11, 7};
        int[] rounds = {3, 2, 2, 3};
        int[] times = {1, 2, 2, 1};
        for (int s = 0; s < 4; s++) {
            DUE.is("19: wakes(" + s + ", 0)", x.wakes(s, 0), first[s]);
            DUE.is("19: wakes(" + s + ", 1)", x.wakes(s, 1), all[s]);
            DUE.is("19: wakes(" + s + ", 2)", x.wakes(s, 2), rounds[s]);
            DUE.is("21: woken(" + s + ")", x.woken(s), times[s]);
        }
        DUE.is("20: night()", x.night(), 6);
        OneNet six = Nets.row(0, 1, 2, 3, 4, 4);
        DUE.is("19: five rounds at most", six.wakes(0, 2), 4);
        DUE.is("19: all but that one", six.wakes(0, 1), 62);
    }

    /** By what felt says, and by KIND of who turns, with MORE 9: how strongly that is felt. */
    private static void leastAndMostTurns() {
        int[] says = {0, 17, 18, 19, 98, 99, 100};
        int[][] strong = {{0, 0, 0, 9, 0, 0}, {17, 17, 17, 26, 34, 0}, {18, 18, 18, 27, 36, 0}, {19, 19, 19, 28, 38, 1},
            {98, 98, 98, 107, 196, 80}, {99, 99, 99, 108, 198, 81}, {99, 99, 99, 108, 198, 81}};
        for (int i = 0; i < says.length; i++) {
            OneNet x = new OneNet();
            Nets.obeyFelt(x, "" + says[i]);
            for (int kind = 0; kind < 6; kind++) {
                x.sleeper(kind, 19, kind);
            }
            for (int kind = 0; kind < 6; kind++) {
                DUE.is("18: KIND " + kind + " turns, felt " + says[i], x.felt((kind + 1) % 6, kind), strong[i][kind]);
            }
        }
        OneNet x = new OneNet();
        Nets.obeyFelt(x, "0 - 1");
        x.sleeper(0, 10, 0);
        x.sleeper(3, 10, 0);
        DUE.is("18: felt says 0 at least, MORE 0", x.felt(0, 1), 0);
    }

    /** Where there is no way, nothing is felt, of whatever KIND one is; at the same knot there is one, of 0 cords. */
    private static void noWay() {
        for (int kind = 0; kind < 6; kind++) {
            OneNet x = Nets.bare();
            Nets.obeyFelt(x, "99 - far");
            x.sleeper(0, 10, 0);
            x.sleeper(kind, 19, 1);
            DUE.is("18: no way from KIND " + kind, x.felt(0, 1), 0);
            DUE.is("19: no way from KIND " + kind, x.wakes(1, 0), 0);
            x.cord(0, 1, 1);
            DUE.is("18: far 1, from KIND " + kind, x.felt(0, 1), new int[] {98, 98, 98, 107, 196, 80}[kind]);
            x.cord(0, 1, 0);
            x.lie(1, 0);
            DUE.is("18: far 0, from KIND " + kind, x.felt(0, 1), new int[] {99, 99, 99, 108, 198, 81}[kind]);
        }
    }

    /** By KIND, with MORE 0 and with MORE 9: one WAKES by just as much as one must feel, and not by one less. */
    private static void justEnough() {
        int[][] wakesAt = {{10, 10, 10, 10, 15, 5}, {10, 10, 1, 10, 6, 5}};
        for (int kind = 0; kind < 6; kind++) {
            for (int big = 0; big < 2; big++) {
                OneNet x = new OneNet();
                x.sleeper(0, 10, 0);
                x.sleeper(kind, 10 + 9 * big, 0);
                int at = wakesAt[big][kind];
                Nets.obeyFelt(x, "" + at);
                DUE.is("19: KIND " + kind + " WAKES by " + at, x.wakes(0, 0), 2);
                DUE.is("21: KIND " + kind + " WAKES by " + at, x.woken(1), 1);
                Nets.obeyFelt(x, "" + (at - 1));
                DUE.is("19: KIND " + kind + " does not by " + (at - 1), x.wakes(0, 0), 0);
                DUE.is("21: KIND " + kind + " does not by " + (at - 1), x.woken(1), 0);
            }
        }
    }

    private static void roundsOfFew() {
        OneNet one = Nets.row(2);
        for (int what = 0; what < 3; what++) {
            DUE.is("19: alone, wakes(0, " + what + ")", one.wakes(0, what), 0);
        }
        DUE.is("21: alone", one.woken(0), 0);
        DUE.is("20: alone", one.night(), 0);
        OneNet two = Nets.row(2, 3);
        DUE.is("19: who turned first is none of who WAKE", two.wakes(0, 1), 2);
        DUE.is("19: nor makes a round more", two.wakes(0, 2), 1);
        DUE.is("19: nor makes a round more", two.wakes(1, 2), 1);
    }

    /** Six in a line, each of whom wakes those beside. */
    private static void roundsOfSix() {
        OneNet x = Nets.row(0, 1, 2, 3, 4, 9);
        x.cord(4, 9, 1);
        int[] rounds = {5, 4, 3, 3, 4, 5};
        int[] first = {2, 5, 10, 20, 40, 16};
        for (int s = 0; s < 6; s++) {
            DUE.is("19: wakes(" + s + ", 0)", x.wakes(s, 0), first[s]);
            DUE.is("19: all but " + s, x.wakes(s, 1), 63 - (1 << s));
            DUE.is("19: behind so many rounds, from " + s, x.wakes(s, 2), rounds[s]);
        }
        DUE.is("20: night()", x.night(), 10);
        x.lie(3, 19);
        DUE.is("19: it ends where nobody lies", x.wakes(0, 1), 6);
        DUE.is("19: behind two rounds", x.wakes(0, 2), 2);
        DUE.is("19: who lies apart", x.wakes(3, 2), 0);
    }

    private static void allOrNobody() {
        OneNet x = Nets.row(3, 3, 3, 3, 3, 3);
        DUE.is("20: the most UNREST", x.night(), 30);
        for (int s = 0; s < 6; s++) {
            DUE.is("21: by all others' turns", x.woken(s), 5);
            DUE.is("19: all others at once", x.wakes(s, 0), 63 - (1 << s));
            DUE.is("19: behind one round", x.wakes(s, 2), 1);
        }
        Nets.obeyFelt(x, "9");
        DUE.is("20: the least UNREST", x.night(), 0);
        for (int s = 0; s < 6; s++) {
            DUE.is("21: by no turn", x.woken(s), 0);
        }
        DUE.is("21: no seventh", x.woken(6), -5);
        DUE.is("19: no seventh", x.wakes(6, 0), -5);
        DUE.is("18: no seventh", x.felt(0, 6), -5);
        DUE.is("18: no seventh", x.felt(6, 0), -5);
    }
}
