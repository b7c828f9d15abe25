/** Promises 1 to 5: a new object, cord, corded, tie, count. */
public final class NetTest {
    private static final Due DUE = new Due("NetTest");
    private static final int[] FARTHEST = {Integer.MIN_VALUE, -1000000, 1000000, Integer.MAX_VALUE};

    public static void main(String[] args) {
        newObject();
        firstLaw();
        apart();
        lastCall();
        cords();
        everyCord();
        ties();
        everyTie();
        counts();
        leastAndMost();
        DUE.end();
    }

    private static void newObject() {
        OneNet x = new OneNet();
        DUE.is("1: count(0)", x.count(0), 0);
        DUE.is("1: count(1)", x.count(1), 31);
        DUE.is("1: count(2)", x.count(2), 1 + 16 + 32768 + 524288);
        DUE.is("1: count(3)", x.count(3), 1);
        DUE.is("1: count(4)", x.count(4), 0);
        DUE.is("1: count(5)", x.count(5), 0);
        DUE.is("1: back()", x.back(), OneNet.STATE);
        for (int s = 0; s < 4; s++) {
            DUE.is("1: cell() of a sheet that is missing", x.cell(s, 0, 0), -11);
        }
        for (int k = 0; k < 20; k++) {
            DUE.is("1: taken(" + k + ", 6)", x.taken(k, 6), k == 0 || k == 4 || k == 15 || k == 19 ? 1 : 0);
        }
        DUE.is("1: nobody", x.told(0, 0), -5);
        OneNet y = new OneNet();
        for (int a = -1; a < 21; a++) {
            for (int b = -1; b < 21; b++) {
                DUE.is("1: corded(" + a + ", " + b + ")", y.corded(a, b), Nets.areBeside(a, b) ? 1 : -5);
            }
        }
    }

    private static void firstLaw() {
        OneNet x = new OneNet();
        DUE.is("1: felt more * 4 + 8 - far * 3", x.asks(0, 0, 0, 0, 0), 8);
        DUE.is("1: felt more * 4 + 8 - far * 3", x.asks(0, 999, 20, 999, 199), 0);
        DUE.is("1: felt more * 4 + 8 - far * 3", x.asks(0, 999, 1, 999, 199), 41);
        DUE.is("1: slope 2", x.asks(1, 999, 20, 999, 199), 2);
        DUE.is("1: bears 60", x.asks(2, 999, 20, 999, 199), 60);
    }

    private static void apart() {
        Calls.made(new OneNet(), States.full());
        OneNet y = new OneNet();
        DUE.is("1: nobody, though in another net six are", y.count(0), 0);
        DUE.is("1: all CORDS", y.count(1), 31);
        DUE.is("1: four TIED", y.count(2), 1 + 16 + 32768 + 524288);
        DUE.is("1: one TEXT", y.count(3), 1);
        DUE.is("1: it is THE LAW", y.count(4), 0);
        DUE.is("1: nothing on THE TAPE", y.count(5), 0);
        DUE.is("1: no image", y.back(), OneNet.STATE);
        DUE.is("1: no sheet", y.judge(0), -11);
    }

    /** Of the 512 calls that an object is used for the last is answered as the first. */
    private static void lastCall() {
        OneNet x = new OneNet();
        int calls = 0;
        for (int s = 0; s < 6; s++, calls++) {
            x.sleeper(s, 309, 6 + s);
        }
        int night = x.night();
        for (calls++; calls < 511; calls++) {
            x.place(calls % 6, 0);
        }
        DUE.is("1: the 512th call", x.night(), night);
    }

    private static void cords() {
        OneNet x = new OneNet();
        DUE.is("2: cord(7, 8, 0)", x.cord(7, 8, 0), 1);
        DUE.is("3: corded(7, 8)", x.corded(7, 8), 0);
        DUE.is("3: corded(8, 7)", x.corded(8, 7), 0);
        DUE.is("2: cord(8, 7, 0)", x.cord(8, 7, 0), 0);
        DUE.is("2: cord(8, 7, 1)", x.cord(8, 7, 1), 0);
        DUE.is("2: cord(7, 8, 1)", x.cord(7, 8, 1), 1);
        DUE.is("3: corded(7, 8)", x.corded(7, 8), 1);
        DUE.is("2: cord(7, 8, 2)", x.cord(7, 8, 2), -7);
        DUE.is("2: cord(7, 8, -1)", x.cord(7, 8, -1), -7);
        DUE.is("3: corded(7, 8), behind the refusals", x.corded(7, 8), 1);
        DUE.is("2: cord(4, 5, 0), one row's end", x.cord(4, 5, 0), -5);
        DUE.is("2: cord(0, 6, 0), aslant", x.cord(0, 6, 0), -5);
        DUE.is("2: cord(3, 3, 0)", x.cord(3, 3, 0), -5);
        DUE.is("2: cord(19, 20, 0)", x.cord(19, 20, 0), -5);
        DUE.is("2: cord(-1, 0, 0)", x.cord(-1, 0, 0), -5);
        DUE.is("2: cord(0, 2, 9), both wrong", x.cord(0, 2, 9), -5);
        DUE.is("2: cord() of the farthest", x.cord(Integer.MIN_VALUE, Integer.MAX_VALUE, 0), -5);
        DUE.is("3: corded(15, 20)", x.corded(15, 20), -5);
        DUE.is("3: corded(14, 15)", x.corded(14, 15), -5);
    }

    /** Each of the 31 is cut, and put again, by itself. */
    private static void everyCord() {
        OneNet x = new OneNet();
        int cords = 0;
        for (int a = -1; a < 21; a++) {
            for (int b = -1; b < 21; b++) {
                String call = "cord(" + a + ", " + b + ", ";
                if (!Nets.areBeside(a, b)) {
                    DUE.is("2: " + call + "0)", new OneNet().cord(a, b, 0), -5);
                    continue;
                }
                OneNet one = new OneNet();
                DUE.is("2: " + call + "0)", one.cord(a, b, 0), 1);
                DUE.is("2: there are 30", one.count(1), 30);
                DUE.is("3: there is none", one.corded(b, a), 0);
                DUE.is("2: " + call + "0), again", one.cord(b, a, 0), 0);
                DUE.is("2: " + call + "1)", one.cord(b, a, 1), 0);
                DUE.is("2: " + call + "1), again", one.cord(a, b, 1), 1);
                DUE.is("2: there are 31", one.count(1), 31);
                cords += a < b ? x.cord(a, b, 0) : 0;
            }
        }
        DUE.is("2: all 31 are cut", cords, 31);
        DUE.is("5: no CORD", x.count(1), 0);
        for (int is : FARTHEST) {
            DUE.is("2: cord(0, 1, " + is + ")", x.cord(0, 1, is), -7);
            DUE.is("2: cord(0, 2, " + is + ")", x.cord(0, 2, is), -5);
            DUE.is("2: cord(" + is + ", 1, 1)", x.cord(is, 1, 1), -5);
            DUE.is("2: cord(1, " + is + ", 1)", x.cord(1, is, 1), -5);
            DUE.is("3: corded(" + is + ", 1)", x.corded(is, 1), -5);
            DUE.is("3: corded(1, " + is + ")", x.corded(1, is), -5);
        }
        DUE.is("2: none was put by these", x.count(1), 0);
    }

    private static void ties() {
        OneNet x = new OneNet();
        DUE.is("4: tie(0, 1)", x.tie(0, 1), 1);
        DUE.is("4: tie(0, 0)", x.tie(0, 0), 1);
        DUE.is("4: tie(0, 0)", x.tie(0, 0), 0);
        DUE.is("4: tie(7, 1)", x.tie(7, 1), 0);
        DUE.is("4: tie(7, 2)", x.tie(7, 2), -7);
        DUE.is("4: tie(7, -1)", x.tie(7, -1), -7);
        DUE.is("4: tie(20, 2)", x.tie(20, 2), -5);
        DUE.is("4: tie(-1, 0)", x.tie(-1, 0), -5);
        DUE.is("4: count(2)", x.count(2), 16 + 128 + 32768 + 524288);
    }

    private static void everyTie() {
        OneNet x = new OneNet();
        int bits = x.count(2);
        for (int k = 0; k < 20; k++) {
            int was = bits >> k & 1;
            DUE.is("4: tie(" + k + ", 1)", x.tie(k, 1), was);
            DUE.is("4: tie(" + k + ", 1), again", x.tie(k, 1), 1);
            bits |= 1 << k;
            DUE.is("5: which are TIED", x.count(2), bits);
        }
        for (int k = 19; k >= 0; k--) {
            DUE.is("4: tie(" + k + ", 0)", x.tie(k, 0), 1);
            DUE.is("4: tie(" + k + ", 0), again", x.tie(k, 0), 0);
            bits &= ~(1 << k);
            DUE.is("5: which are TIED", x.count(2), bits);
        }
    }

    private static void counts() {
        OneNet x = new OneNet();
        x.sleeper(0, 10, 3);
        x.sleeper(1, 10, 3);
        x.cord(2, 3, 0);
        x.cord(2, 7, 0);
        Nets.obey(x, "felt 1; slope 1; bears 1;");
        Nets.read(x, "felt 1; slope 1; bears 1;");
        Nets.feed(x, "abc");
        DUE.is("5: count(0)", x.count(0), 2);
        DUE.is("5: count(1)", x.count(1), 29);
        DUE.is("5: count(3)", x.count(3), 3);
        DUE.is("5: count(4)", x.count(4), 1);
        DUE.is("5: count(5)", x.count(5), 3);
        DUE.is("5: count(6)", x.count(6), OneNet.BAD);
        DUE.is("5: count(-1)", x.count(-1), OneNet.BAD);
    }

    private static void leastAndMost() {
        OneNet x = new OneNet();
        for (int a = 0; a < 20; a++) {
            x.tie(a, 0);
            x.cord(a, a + 1, 0);
            x.cord(a, a + 5, 0);
        }
        int[] least = {0, 0, 0, 1, 0, 0};
        for (int what = 0; what < 6; what++) {
            DUE.is("5: the least, count(" + what + ")", x.count(what), least[what]);
        }
        OneNet y = new OneNet();
        for (int s = 0; s < 6; s++) {
            y.sleeper(0, 10, 0);
        }
        for (int k = 0; k < 20; k++) {
            y.tie(k, 1);
        }
        for (int t = 1; t < 6; t++) {
            Nets.obey(y, "felt 1; slope 1; bears 1;");
        }
        Nets.feed(y, " ".repeat(160));
        int[] most = {6, 31, (1 << 20) - 1, 6, 5, 160};
        for (int what = 0; what < 6; what++) {
            DUE.is("5: the most, count(" + what + ")", y.count(what), most[what]);
        }
        for (int what : FARTHEST) {
            DUE.is("5: count(" + what + ")", y.count(what), OneNet.BAD);
        }
    }
}
