/** Promises 18 to 24: felt, wakes, night, woken, place, swap, rest. */
public final class TurnTest {
    private static final Due DUE = new Due("TurnTest");
    private static final String NEAR = "felt (far < 2) * 10; slope 0; bears 0;";

    public static void main(String[] args) {
        kinds();
        names();
        ways();
        waking();
        spreading();
        placing();
        swapping();
        resting();
        DUE.end();
    }

    /** A net with the cords 0 - 1 - 2 - 3 - 4 alone, and sleepers at knots; who lies no farther than 1 off wakes. */
    private static OneNet row(int... knots) {
        OneNet x = Nets.bare();
        for (int k = 0; k < 4; k++) {
            x.cord(k, k + 1, 1);
        }
        for (int knot : knots) {
            x.sleeper(0, 50, knot);
        }
        Nets.obey(x, NEAR);
        return x;
    }

    private static void law(OneNet x, String felt) {
        Nets.obey(x, "felt " + felt + "; slope 0; bears 0;");
    }

    private static void kinds() {
        int[] strong = {10, 10, 10, 13, 20, 4};
        for (int kind = 0; kind < 6; kind++) {
            OneNet x = new OneNet();
            x.sleeper(0, 50, 7);
            x.sleeper(kind, 53, 8);
            law(x, "10");
            DUE.is("18: a turn of kind " + kind, x.felt(0, 1), strong[kind]);
        }
        OneNet x = new OneNet();
        x.sleeper(0, 50, 7);
        x.sleeper(5, 59, 8);
        law(x, "10");
        DUE.is("18: 0 at least", x.felt(0, 1), 0);
        law(x, "500");
        DUE.is("18: 99 at most, twice MORE less", x.felt(0, 1), 81);
    }

    private static void names() {
        OneNet x = new OneNet();
        x.sleeper(1, 83, 12);
        x.sleeper(0, 56, 8);
        int[] heard = {5, 6, 2, 20, 12, 0};
        int[] other = {8, 3, 2, 5, 8, 1};
        String[] names = {"told", "more", "far", "weight", "knot", "who"};
        for (int i = 0; i < 6; i++) {
            if (x.count(3) == 6) {
                x = new OneNet();
                x.sleeper(1, 83, 12);
                x.sleeper(0, 56, 8);
            }
            law(x, names[i]);
            DUE.is("18: 0 feels 1, felt " + names[i], x.felt(0, 1), heard[i]);
            DUE.is("18: 1 feels 0, felt " + names[i], x.felt(1, 0), other[i]);
        }
        DUE.is("18: alike", x.felt(0, 0), -5);
        DUE.is("18: no such one", x.felt(0, 2), -5);
        DUE.is("18: no such one", x.felt(2, 0), -5);
        DUE.is("18: no such one", x.felt(-1, 0), -5);
        DUE.is("18: no such one", x.felt(0, -1), -5);
    }

    private static void ways() {
        OneNet x = Nets.bare();
        x.sleeper(0, 50, 0);
        x.sleeper(0, 50, 1);
        x.sleeper(0, 50, 0);
        law(x, "50 + far");
        DUE.is("18: no way", x.felt(0, 1), 0);
        DUE.is("18: the same knot, without a cord", x.felt(0, 2), 50);
        x.cord(0, 5, 1);
        x.cord(5, 6, 1);
        x.cord(6, 1, 1);
        DUE.is("18: round about", x.felt(0, 1), 53);
        DUE.is("18: round about, the other way", x.felt(1, 0), 53);
        x.cord(0, 1, 1);
        DUE.is("18: the fewest", x.felt(0, 1), 51);
        x.cord(0, 1, 0);
        x.cord(5, 6, 0);
        DUE.is("18: no way any more", x.felt(0, 1), 0);
        // A snake through all 20 knots.
        OneNet y = Nets.bare();
        for (int k = 0; k < 20; k++) {
            y.cord(k, k + 1, 1);
        }
        y.cord(4, 9, 1);
        y.cord(5, 10, 1);
        y.cord(14, 19, 1);
        y.sleeper(0, 50, 0);
        y.sleeper(0, 50, 15);
        law(y, "far");
        DUE.is("18: 19 cords", y.felt(0, 1), 19);
    }

    private static void waking() {
        OneNet x = new OneNet();
        x.sleeper(0, 50, 7);
        x.sleeper(0, 50, 8);
        x.sleeper(2, 53, 8);
        x.sleeper(5, 50, 9);
        law(x, "10");
        DUE.is("19: just what it needs", x.wakes(0, 0), 2 + 4 + 8);
        DUE.is("21: by three others", x.woken(0), 3);
        DUE.is("20: night()", x.night(), 12);
        law(x, "9");
        DUE.is("19: one less than a SLEEPER needs", x.wakes(0, 0), 4 + 8);
        DUE.is("21: woken(0)", x.woken(0), 0);
        DUE.is("21: woken(3)", x.woken(3), 3);
        DUE.is("20: night()", x.night(), 6);
        law(x, "6");
        DUE.is("19: a THIN with MORE 3 needs 7", x.wakes(0, 0), 8);
        law(x, "4");
        DUE.is("19: nobody", x.wakes(0, 0), 0);
        DUE.is("19: nobody, in no round", x.wakes(0, 2), 0);
        DUE.is("20: night()", x.night(), 0);
        DUE.is("19: no such one", x.wakes(4, 9), -5);
        DUE.is("19: no such one", x.wakes(-1, 0), -5);
        DUE.is("19: what 3", x.wakes(0, 3), -7);
        DUE.is("19: what -1", x.wakes(0, -1), -7);
        DUE.is("21: no such one", x.woken(4), -5);
        DUE.is("21: no such one", x.woken(-1), -5);
        DUE.is("20: nobody there", new OneNet().night(), 0);
    }

    private static void spreading() {
        OneNet x = row(0, 1, 2, 3);
        int[] first = {2, 5, 10, 4};
        int[] all = {14, 13, 11, 7};
        int[] rounds = {3, 2, 2, 3};
        int[] times = {1, 2, 2, 1};
        for (int s = 0; s < 4; s++) {
            DUE.is("19: wakes(" + s + ", 0)", x.wakes(s, 0), first[s]);
            DUE.is("19: wakes(" + s + ", 1)", x.wakes(s, 1), all[s]);
            DUE.is("19: wakes(" + s + ", 2)", x.wakes(s, 2), rounds[s]);
            DUE.is("21: woken(" + s + ")", x.woken(s), times[s]);
        }
        DUE.is("20: night()", x.night(), 6);
        OneNet six = row(0, 1, 2, 3, 4, 4);
        DUE.is("19: five rounds at most", six.wakes(0, 2), 4);
        DUE.is("19: all but that one", six.wakes(0, 1), 62);
    }

    private static void placing() {
        OneNet x = row(0, 1, 2);
        DUE.is("22: place(1, 0)", x.place(1, 0), 4);
        DUE.is("22: place(1, 1)", x.place(1, 1), 0);
        DUE.is("22: place(0, 0)", x.place(0, 0), 4);
        DUE.is("22: place(0, 1)", x.place(0, 1), 2);
        DUE.is("22: nothing is changed", x.told(0, 0), 0);
        x = row(0, 1, 2);
        x.lie(1, 19);
        DUE.is("22: of like ones the first, ahead of where one lies", x.place(1, 0), 4);
        DUE.is("22: one alone", row(7).place(0, 0), 0);
        DUE.is("22: no such one", x.place(3, 9), -5);
        DUE.is("22: no such one", x.place(-1, 0), -5);
        DUE.is("22: what 2", x.place(0, 2), -7);
        DUE.is("22: what -1", x.place(0, -1), -7);
    }

    private static void swapping() {
        // The THIN one wakes at 1; at knot 0 nothing is felt.
        OneNet x = new OneNet();
        x.sleeper(0, 50, 0);
        x.sleeper(2, 59, 1);
        law(x, "5 * (0 < knot)");
        DUE.is("23: as now", x.night(), 1);
        DUE.is("23: swap(0)", x.swap(0), 1);
        DUE.is("23: swap(1)", x.swap(1), 0);
        DUE.is("23: nothing is changed", x.told(1, 0), 1);
        x.lie(1, 0);
        x.lie(0, 1);
        DUE.is("23: none is less", x.swap(0), -1);
        DUE.is("23: as now", x.swap(1), 0);
        OneNet y = new OneNet();
        y.sleeper(0, 50, 2);
        y.sleeper(2, 59, 1);
        y.sleeper(0, 50, 0);
        law(y, "5 * (0 < knot)");
        DUE.is("23: the pair 1, 2", y.swap(0), 12);
        DUE.is("23: then", y.swap(1), 0);
        OneNet z = new OneNet();
        z.sleeper(2, 59, 1);
        z.sleeper(0, 50, 0);
        z.sleeper(0, 50, 0);
        law(z, "5 * (0 < knot)");
        DUE.is("23: of like ones the first", z.swap(0), 1);
        DUE.is("23: nobody there", new OneNet().swap(0), -1);
        DUE.is("23: swap(2)", x.swap(2), OneNet.BAD);
        DUE.is("23: swap(-1)", x.swap(-1), OneNet.BAD);
    }

    private static void resting() {
        DUE.is("24: nobody there", new OneNet().rest(), 1);
        DUE.is("24: one would wake less elsewhere", row(0, 1).rest(), 0);
        DUE.is("24: nobody wakes", row(0, 2, 4).rest(), 1);
        OneNet x = new OneNet();
        x.sleeper(0, 50, 0);
        x.sleeper(0, 50, 1);
        law(x, "99");
        DUE.is("24: all wake everywhere", x.rest(), 1);
        law(x, "10 * (0 < knot)");
        DUE.is("24: the better knot is taken", x.rest(), 1);
        x.lie(0, 2);
        DUE.is("24: the better knot is free", x.rest(), 0);
        DUE.is("24: nothing is changed", x.told(0, 0), 2);
        DUE.is("24: nothing is changed", x.told(1, 0), 1);
    }
}
