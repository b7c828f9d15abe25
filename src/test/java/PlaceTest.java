/** Promises 22 to 24: place, swap, rest. */
public final class PlaceTest {
    private static final Due DUE = new Due("PlaceTest");

    public static void main(String[] args) {
        placing();
        onlyQuietKnot();
        swapping();
        farthestPairs();
        justLess();
        resting();
        onlyBetterKnot();
        DUE.end();
    }

    private static void placing() {
        OneNet x = Nets.row(0, 1, 2);
        DUE.is("22: place(1, 0)", x.place(1, 0), 4);
        DUE.is("22: place(1, 1)", x.place(1, 1), 0);
        DUE.is("22: place(0, 0)", x.place(0, 0), 4);
        DUE.is("22: place(0, 1)", x.place(0, 1), 2);
        DUE.is("22: nothing is changed", x.told(0, 0), 0);
        x = Nets.row(0, 1, 2);
        x.lie(1, 19);
        DUE.is("22: of like ones the first, ahead of where one lies", x.place(1, 0), 4);
        DUE.is("22: one alone", Nets.row(7).place(0, 0), 0);
        DUE.is("22: no such one", x.place(3, 9), -5);
        DUE.is("22: no such one", x.place(-1, 0), -5);
        DUE.is("22: what 2", x.place(0, 2), -7);
        DUE.is("22: what -1", x.place(0, -1), -7);
    }

    private static void swapping() {
        // The THIN one wakes at 1; at knot 0 nothing is felt.
        OneNet x = new OneNet();
        x.sleeper(0, 50, 0);
        x.sleeper(2, 59, 1);
        Nets.obeyFelt(x, "5 * (0 < knot)");
        DUE.is("23: as now", x.night(), 1);
        DUE.is("23: swap(0)", x.swap(0), 1);
        DUE.is("23: swap(1)", x.swap(1), 0);
        DUE.is("23: nothing is changed", x.told(1, 0), 1);
        x.lie(1, 0);
        x.lie(0, 1);
        DUE.is("23: none is less", x.swap(0), -1);
        DUE.is("23: as now", x.swap(1), 0);
        OneNet y = new OneNet();
        y.sleeper(0, 50, 2);
        y.sleeper(2, 59, 1);
        y.sleeper(0, 50, 0);
        Nets.obeyFelt(y, "5 * (0 < knot)");
        DUE.is("23: the pair 1, 2", y.swap(0), 12);
        DUE.is("23: then", y.swap(1), 0);
        OneNet z = new OneNet();
        z.sleeper(2, 59, 1);
        z.sleeper(0, 50, 0);
        z.sleeper(0, 50, 0);
        Nets.obeyFelt(z, "5 * (0 < knot)");
        DUE.is("23: of like ones the first", z.swap(0), 1);
        DUE.is("23: nobody there", new OneNet().swap(0), -1);
        DUE.is("23: swap(2)", x.swap(2), OneNet.BAD);
        DUE.is("23: swap(-1)", x.swap(-1), OneNet.BAD);
    }

    private static void resting() {
        DUE.is("24: nobody there", new OneNet().rest(), 1);
        DUE.is("24: one would wake less elsewhere", Nets.row(0, 1).rest(), 0);
        DUE.is("24: nobody wakes", Nets.row(0, 2, 4).rest(), 1);
        OneNet x = new OneNet();
        x.sleeper(0, 50, 0);
        x.sleeper(0, 50, 1);
        Nets.obeyFelt(x, "99");
        DUE.is("24: all wake everywhere", x.rest(), 1);
        Nets.obeyFelt(x, "10 * (0 < knot)");
        DUE.is("24: the better knot is taken", x.rest(), 1);
        x.lie(0, 2);
        DUE.is("24: the better knot is free", x.rest(), 0);
        DUE.is("24: nothing is changed", x.told(0, 0), 2);
        DUE.is("24: nothing is changed", x.told(1, 0), 1);
    }

    /** At one knot alone nothing is felt, be it the first one or the last. */
    private static void onlyQuietKnot() {
        for (int quiet = 0; quiet < 20; quiet++) {
            OneNet x = new OneNet();
            Nets.obeyFelt(x, "99 - 99 * (knot = " + quiet + ")");
            x.sleeper(0, 10, quiet);
            x.sleeper(0, 10, 19 - quiet);
            DUE.is("22: it lies there, and stays", x.place(0, 0), quiet);
            DUE.is("22: UNREST then", x.place(0, 1), 1);
            DUE.is("22: the only one", x.place(1, 0), quiet);
            DUE.is("22: UNREST then", x.place(1, 1), 0);
            DUE.is("22: nothing is changed", x.told(1, 0), 19 - quiet);
        }
        OneNet x = new OneNet();
        x.sleeper(0, 10, 19);
        DUE.is("22: all alike, the first", x.place(0, 0), 0);
        Nets.obeyFelt(x, "99 * (knot < 3)");
        x.sleeper(0, 10, 19);
        DUE.is("22: the first of those that are least", x.place(0, 0), 3);
    }

    /** Six THIN ones, but one, who feels too little at 19: with that one who lies at 19 changes places. */
    private static OneNet thin(int last, int calm) {
        OneNet x = new OneNet();
        Nets.obeyFelt(x, "5 * (knot = 19)");
        for (int s = 0; s < 6; s++) {
            x.sleeper(s == calm ? 0 : 2, 19, s == last ? 19 : s);
        }
        return x;
    }

    private static void farthestPairs() {
        for (int a = 0; a < 6; a++) {
            for (int b = a + 1; b < 6; b++) {
                DUE.is("23: the only two", thin(a, b).swap(0), 10 * a + b);
                DUE.is("23: the only two, the other way", thin(b, a).swap(0), 10 * a + b);
                DUE.is("20: UNREST now", thin(b, a).night(), 5);
                DUE.is("23: UNREST then", thin(b, a).swap(1), 0);
            }
        }
        DUE.is("23: all alike", thin(0, 9).swap(0), -1);
        DUE.is("23: all alike, as now", thin(0, 9).swap(1), 5);
    }

    /** Only by who 0 feels: at knot 3 as many turns as there are others, at 2 one less. */
    private static void justLess() {
        OneNet x = new OneNet();
        Nets.obeyFelt(x, "10 * (who = 0) * (knot = 3)");
        x.sleeper(0, 10, 3);
        DUE.is("23: one alone", x.swap(0), -1);
        DUE.is("23: one alone, as now", x.swap(1), 0);
        x.sleeper(0, 10, 2);
        DUE.is("23: less by one", x.swap(0), 1);
        DUE.is("23: less by one, then", x.swap(1), 0);
        x.lie(1, 3);
        DUE.is("23: at the same knot nothing is less", x.swap(0), -1);
        DUE.is("23: as now", x.swap(1), 1);
    }

    /** Only number woken WAKES, and not at the quiet knot. */
    private static OneNet wakeful(int woken, int quiet) {
        OneNet x = new OneNet();
        Nets.obeyFelt(x, "10 * (who = " + woken + ") - 10 * (knot = " + quiet + ")");
        for (int s = 0; s < 6; s++) {
            x.sleeper(0, 10, s + 1);
        }
        return x;
    }

    private static void onlyBetterKnot() {
        for (int s = 0; s < 6; s++) {
            for (int quiet : new int[] {0, 19}) {
                OneNet x = wakeful(s, quiet);
                DUE.is("24: one would lie better at " + quiet, x.rest(), 0);
                int other = s == 5 ? 0 : 5;
                x.lie(other, quiet);
                DUE.is("24: another lies there", x.rest(), 1);
                x.lie(other, 12);
                x.lie(s, quiet);
                DUE.is("24: one lies there", x.rest(), 1);
            }
        }
        OneNet x = new OneNet();
        Nets.obeyFelt(x, "10 - (knot = 19) * (weight = 1)");
        x.sleeper(0, 10, 0);
        DUE.is("24: alone", x.rest(), 1);
        x.sleeper(0, 20, 0);
        DUE.is("24: by one turn less", x.rest(), 0);
        x.lie(0, 19);
        DUE.is("24: no less by any", x.rest(), 1);
    }
}
