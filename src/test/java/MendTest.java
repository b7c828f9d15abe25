/** Promises 25 to 27: order, mend, rim. */
public final class MendTest {
    private static final Due DUE = new Due("MendTest");

    public static void main(String[] args) {
        ordering();
        oneToSix();
        mending();
        everyCord();
        tying();
        everyTie();
        justLess();
        DUE.end();
    }

    /** A net in which all are TIED but 7, without cords. */
    private static OneNet hole() {
        OneNet x = Nets.bare();
        for (int k = 0; k < 20; k++) {
            x.tie(k, k == 7 ? 0 : 1);
        }
        x.sleeper(0, 240, 7);
        return x;
    }

    private static void ordering() {
        OneNet x = new OneNet();
        DUE.is("25: nobody", x.order(0), 0);
        DUE.is("25: nobody", x.order(1), 0);
        DUE.is("25: order(2)", x.order(2), OneNet.BAD);
        DUE.is("25: order(-1)", x.order(-1), OneNet.BAD);
        x.tie(0, 0);
        x.cord(0, 1, 0);
        x.cord(0, 5, 0);
        DUE.is("25: nobody, though a knot has no cord", x.order(1), 0);
        x.cord(0, 1, 1);
        x.cord(0, 5, 1);
        x.tie(0, 1);
        int digits = 0;
        for (int s = 0; s < 6; s++) {
            x.sleeper(s, 309 - s, 6 + s);
            digits = 10 * digits + s + 1;
            DUE.is("25: the first order", x.order(0), digits);
            DUE.is("25: all in it", x.order(1), x.hang(0));
        }
        DUE.is("25: nothing is changed", x.count(0), 6);
    }

    private static void mending() {
        OneNet x = hole();
        DUE.is("26: 999 as now, 24 by any cord", x.mend(1), 24);
        DUE.is("26: the first cord of like ones", x.mend(0), 207);
        x.cord(2, 7, 1);
        DUE.is("26: the next cord", x.mend(0), 607);
        DUE.is("26: 24 by two cords", x.mend(1), 12);
        x.cord(6, 7, 1);
        DUE.is("26: the next cord", x.mend(0), 708);
        DUE.is("26: nothing is changed", x.corded(7, 8), 0);
        x.cord(7, 8, 1);
        DUE.is("26: the last cord", x.mend(0), 712);
        DUE.is("26: 24 by four cords", x.mend(1), 6);
        x.cord(7, 12, 1);
        DUE.is("26: none is left", x.mend(0), -1);
        DUE.is("26: as now", x.mend(1), 6);
        DUE.is("26: no cord helps where all are", new OneNet().mend(0), -1);
        DUE.is("26: mend(2)", x.mend(2), OneNet.BAD);
        DUE.is("26: mend(-1)", x.mend(-1), OneNet.BAD);
        // Two knots without any cord: one cord more leaves one of them.
        OneNet y = hole();
        y.tie(19, 0);
        DUE.is("26: nothing would be less", y.mend(0), -1);
        DUE.is("26: as now", y.mend(1), 999);
    }

    private static void tying() {
        OneNet x = hole();
        DUE.is("27: the only one", x.rim(0), 7);
        DUE.is("27: then", x.rim(1), 0);
        DUE.is("27: nothing is changed", x.count(2), (1 << 20) - 1 - (1 << 7));
        x.tie(19, 0);
        DUE.is("27: nothing would be less", x.rim(0), -1);
        DUE.is("27: as now", x.rim(1), 999);
        x.tie(7, 1);
        x.tie(19, 1);
        DUE.is("27: all are TIED", x.rim(0), -1);
        DUE.is("27: all are TIED", x.rim(1), 0);
        DUE.is("27: rim(2)", x.rim(2), OneNet.BAD);
        DUE.is("27: rim(-1)", x.rim(-1), OneNet.BAD);
        // 7 and 8 hang between 6 and 9: either of them TIED leaves the other half of 24.
        OneNet y = Nets.bare();
        for (int k = 0; k < 20; k++) {
            y.tie(k, k == 7 || k == 8 ? 0 : 1);
        }
        y.cord(6, 7, 1);
        y.cord(7, 8, 1);
        y.cord(8, 9, 1);
        y.sleeper(0, 240, 7);
        y.sleeper(0, 240, 8);
        DUE.is("27: of like ones the first", y.rim(0), 7);
        DUE.is("27: then", y.rim(1), 12);
        y.lie(1, 2);
        DUE.is("27: the one that bears", y.rim(0), 7);
    }

    private static void oneToSix() {
        OneNet x = hole();
        DUE.is("25: one", x.order(0), 1);
        DUE.is("25: one, without a cord", x.order(1), 999);
        x.cord(7, 8, 1);
        int[] orders = {1, 12, 123, 1234, 12345, 123456};
        int[] deep = {24, 34, 44, 54, 64, 74};
        for (int s = 0; s < 6; s++) {
            DUE.is("25: the first of like orders", x.order(0), orders[s]);
            DUE.is("25: how DEEP, all being in", x.order(1), deep[s]);
            x.sleeper(0, 100, 7);
        }
        OneNet y = hole();
        y.cord(7, 8, 1);
        y.lie(0, 1);
        DUE.is("25: who weighs down nothing", y.order(1), 0);
        DUE.is("25: is told all the same", y.order(0), 1);
    }

    /** All are TIED but k, which has no cord; who WEIGHS 24 lies there. */
    private static OneNet holeAt(int k) {
        OneNet x = hole();
        x.tie(7, 1);
        x.tie(k, 0);
        x.lie(0, k);
        return x;
    }

    /** Each cord is the only one that one knot could have. */
    private static void everyCord() {
        for (int a = 0; a < 20; a++) {
            for (int b = a + 1; b < 20; b++) {
                if (!Nets.areBeside(a, b)) {
                    continue;
                }
                for (int low : new int[] {a, b}) {
                    OneNet x = holeAt(low);
                    int cords = 0;
                    for (int other = 0; other < 20; other++) {
                        if (other != a + b - low && x.cord(low, other, 1) == 0) {
                            cords++;
                        }
                    }
                    DUE.is("26: the only one", x.mend(0), 100 * a + b);
                    DUE.is("26: how DEEP then", x.mend(1), 24 / (cords + 1));
                    DUE.is("26: there is still none", x.corded(a, b), 0);
                }
            }
        }
    }

    private static void everyTie() {
        for (int k = 0; k < 20; k++) {
            OneNet x = holeAt(k);
            DUE.is("27: the only one", x.rim(0), k);
            DUE.is("27: how DEEP then", x.rim(1), 0);
            DUE.is("27: it is still not TIED", x.tie(k, 0), 0);
        }
        DUE.is("27: all are like, none less", new OneNet().rim(0), -1);
        DUE.is("27: as now", new OneNet().rim(1), 0);
    }

    /** Less by one is less; as DEEP as now is none. */
    private static void justLess() {
        OneNet x = holeAt(7);
        x.cord(6, 7, 1);
        x.cord(7, 12, 1);
        x.cord(7, 8, 1);
        x.sleeper(0, 20, 7);
        x.sleeper(1, 12, 9);
        DUE.is("15: 26 by three cords, cut", x.hang(0), 8);
        DUE.is("26: 26 by four cords, cut", x.mend(1), 6);
        x.lie(1, 9);
        x.lie(0, 9);
        x.sleeper(0, 10, 7);
        DUE.is("15: 1 by three cords, cut", x.hang(0), 0);
        DUE.is("26: not less than now", x.mend(0), -1);
        DUE.is("26: as now", x.mend(1), 0);
        x.lie(1, 7);
        DUE.is("15: 3 by three cords", x.hang(0), 1);
        DUE.is("26: less by one", x.mend(0), 207);
        DUE.is("26: less by one, then", x.mend(1), 0);
        DUE.is("27: less by one", x.rim(0), 7);
        DUE.is("27: less by one, then", x.rim(1), 0);
    }
}
