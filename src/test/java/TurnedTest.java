/** Promises 28 and 29: turned, laws. */
public final class TurnedTest {
    private static final Due DUE = new Due("TurnedTest");

    public static void main(String[] args) {
        sets();
        texts();
        DUE.end();
    }

    /** Three in a row; who lies no farther than 1 off wakes: by 0 wakes 1, by 1 wake 0 and 2, by 2 wakes 1. */
    private static OneNet three() {
        OneNet x = new OneNet();
        x.sleeper(0, 50, 5);
        x.sleeper(0, 50, 6);
        x.sleeper(0, 50, 7);
        Nets.obey(x, "felt (far < 2) * 10; slope 0; bears 0;");
        return x;
    }

    private static void sets() {
        OneNet x = three();
        // By set of who turn, from none to all: who wake.
        int[] wakes = {0, 2, 5, 4, 2, 2, 1, 0};
        for (int woke = 0; woke < 8; woke++) {
            int many = 0;
            int first = -1;
            for (int set = 7; set >= 0; set--) {
                if (wakes[set] == woke) {
                    many++;
                    first = set;
                }
            }
            DUE.is("28: turned(" + woke + ", 0)", x.turned(woke, 0), many);
            DUE.is("28: turned(" + woke + ", 1)", x.turned(woke, 1), first);
        }
        DUE.is("28: no such SLEEPERS", x.turned(8, 9), -5);
        DUE.is("28: no such SLEEPERS", x.turned(-1, 0), -5);
        DUE.is("28: what 2", x.turned(0, 2), -7);
        DUE.is("28: what -1", x.turned(0, -1), -7);
        OneNet nobody = new OneNet();
        DUE.is("28: nobody there", nobody.turned(0, 0), 1);
        DUE.is("28: nobody there", nobody.turned(0, 1), 0);
        DUE.is("28: nobody there", nobody.turned(1, 0), -5);
    }

    private static void texts() {
        OneNet x = three();
        Nets.read(x, "felt 0; slope 0; bears 0;");
        Nets.read(x, "felt 99; slope 0; bears 0;");
        DUE.is("29: by which 1 wakes", x.laws(0, 2), 2);
        DUE.is("29: by which nobody wakes", x.laws(0, 0), 1 + 4);
        DUE.is("29: by which both wake", x.laws(0, 6), 8);
        DUE.is("29: by 1, both are near", x.laws(1, 5), 2 + 8);
        DUE.is("29: nobody wakes by the own turn", x.laws(0, 1), 0);
        DUE.is("29: THE LAW is as it was", x.count(4), 1);
        DUE.is("29: THE LAW is as it was", x.wakes(0, 0), 2);
        DUE.is("29: no such one", x.laws(3, 99), -5);
        DUE.is("29: no such one", x.laws(-1, 0), -5);
        DUE.is("29: no such SLEEPERS", x.laws(0, 8), -7);
        DUE.is("29: no such SLEEPERS", x.laws(0, -1), -7);
    }
}
