/** Promises 1 to 5: a new object, cord, corded, tie, count. */
public final class NetTest {
    private static final Due DUE = new Due("NetTest");

    public static void main(String[] args) {
        newObject();
        cords();
        ties();
        counts();
        DUE.end();
    }

    private static void newObject() {
        OneNet x = new OneNet();
        DUE.is("1: count(0)", x.count(0), 0);
        DUE.is("1: count(1)", x.count(1), 31);
        DUE.is("1: count(2)", x.count(2), 1 + 16 + 32768 + 524288);
        DUE.is("1: count(3)", x.count(3), 1);
        DUE.is("1: count(4)", x.count(4), 0);
        DUE.is("1: count(5)", x.count(5), 0);
        DUE.is("1: back()", x.back(), OneNet.STATE);
        for (int s = 0; s < 4; s++) {
            DUE.is("1: cell() of a sheet that is missing", x.cell(s, 0, 0), -11);
        }
        for (int a = -1; a < 21; a++) {
            for (int b = -1; b < 21; b++) {
                DUE.is("1: corded(" + a + ", " + b + ")", x.corded(a, b), Nets.areBeside(a, b) ? 1 : -5);
            }
        }
    }

    private static void cords() {
        OneNet x = new OneNet();
        DUE.is("2: cord(7, 8, 0)", x.cord(7, 8, 0), 1);
        DUE.is("3: corded(7, 8)", x.corded(7, 8), 0);
        DUE.is("3: corded(8, 7)", x.corded(8, 7), 0);
        DUE.is("2: cord(8, 7, 0)", x.cord(8, 7, 0), 0);
        DUE.is("2: cord(8, 7, 1)", x.cord(8, 7, 1), 0);
        DUE.is("2: cord(7, 8, 1)", x.cord(7, 8, 1), 1);
        DUE.is("3: corded(7, 8)", x.corded(7, 8), 1);
        DUE.is("2: cord(7, 8, 2)", x.cord(7, 8, 2), -7);
        DUE.is("2: cord(7, 8, -1)", x.cord(7, 8, -1), -7);
        DUE.is("3: corded(7, 8), behind the refusals", x.corded(7, 8), 1);
        DUE.is("2: cord(4, 5, 0), one row's end", x.cord(4, 5, 0), -5);
        DUE.is("2: cord(0, 6, 0), aslant", x.cord(0, 6, 0), -5);
        DUE.is("2: cord(3, 3, 0)", x.cord(3, 3, 0), -5);
        DUE.is("2: cord(19, 20, 0)", x.cord(19, 20, 0), -5);
        DUE.is("2: cord(-1, 0, 0)", x.cord(-1, 0, 0), -5);
        DUE.is("2: cord(0, 2, 9), both wrong", x.cord(0, 2, 9), -5);
        DUE.is("2: cord() of the farthest", x.cord(Integer.MIN_VALUE, Integer.MAX_VALUE, 0), -5);
        DUE.is("3: corded(15, 20)", x.corded(15, 20), -5);
        DUE.is("3: corded(14, 15)", x.corded(14, 15), -5);
    }

    private static void ties() {
        OneNet x = new OneNet();
        DUE.is("4: tie(0, 1)", x.tie(0, 1), 1);
        DUE.is("4: tie(0, 0)", x.tie(0, 0), 1);
        DUE.is("4: tie(0, 0)", x.tie(0, 0), 0);
        DUE.is("4: tie(7, 1)", x.tie(7, 1), 0);
        DUE.is("4: tie(7, 2)", x.tie(7, 2), -7);
        DUE.is("4: tie(7, -1)", x.tie(7, -1), -7);
        DUE.is("4: tie(20, 2)", x.tie(20, 2), -5);
        DUE.is("4: tie(-1, 0)", x.tie(-1, 0), -5);
        DUE.is("4: count(2)", x.count(2), 16 + 128 + 32768 + 524288);
    }

    private static void counts() {
        OneNet x = new OneNet();
        x.sleeper(0, 10, 3);
        x.sleeper(1, 10, 3);
        x.cord(2, 3, 0);
        x.cord(2, 7, 0);
        Nets.obey(x, "felt 1; slope 1; bears 1;");
        Nets.read(x, "felt 1; slope 1; bears 1;");
        Nets.feed(x, "abc");
        DUE.is("5: count(0)", x.count(0), 2);
        DUE.is("5: count(1)", x.count(1), 29);
        DUE.is("5: count(3)", x.count(3), 3);
        DUE.is("5: count(4)", x.count(4), 1);
        DUE.is("5: count(5)", x.count(5), 3);
        DUE.is("5: count(6)", x.count(6), OneNet.BAD);
        DUE.is("5: count(-1)", x.count(-1), OneNet.BAD);
    }
}
