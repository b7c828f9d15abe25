/** Promises 28 and 29: turned, laws. */
public final class TurnedTest {
    private static final Due DUE = new Due("TurnedTest");

    public static void main(String[] args) {
        sets();
        allSets();
        texts();
        allTexts();
        DUE.end();
    }

    /** Three in a row; who lies no farther than 1 off wakes: by 0 wakes 1, by 1 wake 0 and 2, by 2 wakes 1. */
    private static OneNet three() {
        OneNet x = new OneNet();
        x.sleeper(0, 50, 5);
        x.sleeper(0, 50, 6);
        x.sleeper(0, 50, 7);
        Nets.obey(x, "felt (far < 2) * 10; slope 0; bears 0;");
        return x;
    }

    private static void sets() {
        OneNet x = three();
        // By set of who turn, from none to all: who wake.
        int[] wakes = {0, 2, 5, 4, 2, 2, 1, 0};
        for (int woke = 0; woke < 8; woke++) {
            int many = 0;
            int first = -1;
            for (int set = 7; set >= 0; set--) {
                if (wakes[set] == woke) {
                    many++;
                    first = set;
                }
            }
            DUE.is("28: turned(" + woke + ", 0)", x.turned(woke, 0), many);
            DUE.is("28: turned(" + woke + ", 1)", x.turned(woke, 1), first);
        }
        DUE.is("28: no such SLEEPERS", x.turned(8, 9), -5);
        DUE.is("28: no such SLEEPERS", x.turned(-1, 0), -5);
        DUE.is("28: what 2", x.turned(0, 2), -7);
        DUE.is("28: what -1", x.turned(0, -1), -7);
        OneNet nobody = new OneNet();
        DUE.is("28: nobody there", nobody.turned(0, 0), 1);
        DUE.is("28: nobody there", nobody.turned(0, 1), 0);
        DUE.is("28: nobody there", nobody.turned(1, 0), -5);
    }

    private static void texts() {
        OneNet x = three();
        Nets.read(x, "felt 0; slope 0; bears 0;");
        Nets.read(x, "felt 99; slope 0; bears 0;");
        DUE.is("29: by which 1 wakes", x.laws(0, 2), 2);
        DUE.is("29: by which nobody wakes", x.laws(0, 0), 1 + 4);
        DUE.is("29: by which both wake", x.laws(0, 6), 8);
        DUE.is("29: by 1, both are near", x.laws(1, 5), 2 + 8);
        DUE.is("29: nobody wakes by the own turn", x.laws(0, 1), 0);
        DUE.is("29: THE LAW is as it was", x.count(4), 1);
        DUE.is("29: THE LAW is as it was", x.wakes(0, 0), 2);
        DUE.is("29: no such one", x.laws(3, 99), -5);
        DUE.is("29: no such one", x.laws(-1, 0), -5);
        DUE.is("29: no such SLEEPERS", x.laws(0, 8), -7);
        DUE.is("29: no such SLEEPERS", x.laws(0, -1), -7);
    }

    /** Six, of whom each wakes all others: by one's turn all others WAKE, by more turns all who did not turn. */
    private static void allSets() {
        OneNet x = Nets.row(3, 3, 3, 3, 3, 3);
        for (int woke = 0; woke < 64; woke++) {
            int turned = 63 - woke;
            boolean isAll = woke == 63;
            int many = isAll ? 0 : woke == 0 ? 2 : 1;
            int least = isAll ? -1 : woke == 0 ? 0 : turned;
            DUE.is("28: turned(" + woke + ", 0)", x.turned(woke, 0), many);
            DUE.is("28: turned(" + woke + ", 1)", x.turned(woke, 1), least);
        }
        DUE.is("28: no seventh", x.turned(64, 0), -5);
        Nets.obeyFelt(x, "0");
        DUE.is("28: by any set nobody WAKES", x.turned(0, 0), 64);
        DUE.is("28: the least is none", x.turned(0, 1), 0);
        DUE.is("28: all at once WAKE by none", x.turned(63, 0), 0);
        OneNet one = Nets.row(3);
        DUE.is("28: one alone, who turned or not", one.turned(0, 0), 2);
        DUE.is("28: one alone does not WAKE", one.turned(1, 0), 0);
        DUE.is("28: one alone does not WAKE", one.turned(1, 1), -1);
        DUE.is("28: no second", one.turned(2, 0), -5);
    }

    private static void allTexts() {
        OneNet x = new OneNet();
        x.sleeper(0, 10, 3);
        x.sleeper(0, 10, 3);
        DUE.is("29: TEXT 0 alone, by which nobody WAKES", x.laws(0, 0), 1);
        DUE.is("29: TEXT 0 alone", x.laws(0, 2), 0);
        for (int t = 1; t < 6; t++) {
            DUE.is("29: none but those that are", x.laws(0, 0), 1);
            Nets.read(x, "felt 10;slope 0;bears 0;");
            DUE.is("29: so many", x.laws(0, 2), (2 << t) - 2);
        }
        DUE.is("29: the last one, too", x.laws(1, 1), 62);
        DUE.is("29: by none that very one", x.laws(1, 2), 0);
        DUE.is("29: by none that very one, too", x.laws(1, 3), 0);
        DUE.is("29: no third", x.laws(2, 0), -5);
        DUE.is("29: no third", x.laws(0, 4), -7);
        DUE.is("29: THE LAW is TEXT 0 still", x.count(4), 0);
        DUE.is("29: it says what it said", x.felt(0, 1), 8);
        x.lie(0, 4);
        x.sleeper(0, 19, 3);
        DUE.is("29: by all", x.laws(2, 3), 63);
    }
}
