/** Promises 30 to 32: judge, where, film. */
public final class DepthSheetTest {
    private static final Due DUE = new Due("DepthSheetTest");

    public static void main(String[] args) {
        judging();
        sorts();
        everyKnot();
        byteDepths();
        places();
        everyPlace();
        filming();
        filmOfAll();
        DUE.end();
    }

    /** All are TIED but 7, which has two cords, and 13, which has one; who WEIGHS 24 lies at a knot. */
    private static OneNet two(int knot) {
        OneNet x = Nets.bare();
        for (int k = 0; k < 20; k++) {
            x.tie(k, k == 7 || k == 13 ? 0 : 1);
        }
        x.cord(7, 8, 1);
        x.cord(7, 6, 1);
        x.cord(13, 14, 1);
        x.sleeper(0, 240, knot);
        return x;
    }

    private static void judging() {
        OneNet x = two(7);
        x.sheet(1, 2, 20);
        DUE.is("30: 7 is 12 DEEP", x.judge(1), 7);
        x.cell(1, 7, 12);
        DUE.is("30: as told", x.judge(1), -1);
        x.cell(1, 19, 1);
        DUE.is("30: the last is otherwise", x.judge(1), 19);
        x.cell(1, 0, -1);
        DUE.is("30: the first is otherwise", x.judge(1), 0);
        DUE.is("30: no such sheet", x.judge(4), OneNet.BAD);
        DUE.is("30: no such sheet", x.judge(-1), OneNet.BAD);
        DUE.is("30: nothing there", x.judge(0), -11);
        x.sheet(2, 2, 19);
        DUE.is("30: too short", x.judge(2), OneNet.BAD);
        x.sheet(2, 2, 21);
        DUE.is("30: too long", x.judge(2), OneNet.BAD);
        x.sheet(2, 2, 0);
        DUE.is("30: without a number", x.judge(2), OneNet.BAD);
    }

    private static void sorts() {
        for (int sort = 0; sort < 3; sort++) {
            OneNet x = two(7);
            x.sheet(0, sort, 20);
            x.cell(0, 7, 12);
            DUE.is("30: sort " + sort, x.judge(0), -1);
            x.lie(0, 1);
            x.sleeper(3, 309, 7);
            x.sleeper(3, 309, 7);
            x.cell(0, 7, 132);
            DUE.is("30: 132, sort " + sort, x.judge(0), sort == 0 ? 7 : -1);
        }
    }

    private static void places() {
        OneNet x = two(7);
        x.sheet(0, 0, 20);
        DUE.is("31: not where one is felt", x.where(0, 0), (1 << 20) - 1 - (1 << 7) - (1 << 13));
        x.cell(0, 7, 12);
        DUE.is("31: at 7 alone", x.where(0, 0), 1 << 7);
        x.lie(0, 3);
        DUE.is("31: at 7 alone, one lying elsewhere", x.where(0, 0), 1 << 7);
        DUE.is("31: nothing is changed", x.told(0, 0), 3);
        x.cell(0, 7, 0);
        x.cell(0, 13, 24);
        DUE.is("31: at 13 alone", x.where(0, 0), 1 << 13);
        x.cell(0, 13, 23);
        DUE.is("31: nowhere", x.where(0, 0), 0);
        DUE.is("31: no such sheet", x.where(4, 9), OneNet.BAD);
        DUE.is("31: no such sheet", x.where(-1, 0), OneNet.BAD);
        DUE.is("31: nothing there", x.where(1, 9), -11);
        x.sheet(1, 0, 19);
        DUE.is("31: too short", x.where(1, 9), OneNet.BAD);
        DUE.is("31: no such one", x.where(0, 1), -5);
        DUE.is("31: no such one", x.where(0, -1), -5);
    }

    private static void filming() {
        OneNet x = two(7);
        DUE.is("32: film(2)", x.film(2), 20);
        DUE.is("32: as it hangs", x.judge(2), -1);
        DUE.is("32: where one lies", x.where(2, 0), 1 << 7);
        x.lie(0, 13);
        DUE.is("32: it stays so", x.judge(2), 7);
        x.sheet(2, 0, 3);
        x.film(2);
        DUE.is("32: truly", x.judge(2), -1);
        DUE.is("32: ints", x.sleepersBy(2, 2, 0, 0), 0);
        DUE.is("32: 20 of them", x.cell(2, 20, 0), -12);
        DUE.is("32: no such sheet", x.film(4), OneNet.BAD);
        DUE.is("32: no such sheet", x.film(-1), OneNet.BAD);
    }

    /** No knot hangs but by itself: each is 999 DEEP. */
    private static void everyKnot() {
        OneNet x = Nets.bare();
        x.sheet(0, 2, 20);
        for (int k = 0; k < 20; k++) {
            DUE.is("30: the first that is otherwise", x.judge(0), k);
            x.cell(0, k, 999);
        }
        DUE.is("30: none", x.judge(0), -1);
        for (int k = 19; k >= 0; k--) {
            x.cell(0, k, 998);
            DUE.is("30: one less is otherwise", x.judge(0), k);
            x.cell(0, k, 1000);
            DUE.is("30: one more is otherwise", x.judge(0), k);
        }
        for (int size : new int[] {0, 1, 19, 21, 40}) {
            x.sheet(1, 2, size);
            DUE.is("30: " + size + " are not 20", x.judge(1), OneNet.BAD);
            DUE.is("31: " + size + " are not 20", x.where(1, 0), OneNet.BAD);
        }
        x.sheet(1, 1, 20);
        DUE.is("30: 20 shorts", x.judge(1), 0);
        x.sheet(1, -1, 20);
        DUE.is("30: missing again", x.judge(1), -11);
    }

    /** What a byte can tell: 127, and not 128, which is -128 in it. */
    private static void byteDepths() {
        int[] deep = {127, 128, 255, 256};
        for (int d : deep) {
            OneNet x = two(14);
            x.cord(7, 8, 0);
            Nets.weighDown(x, 7, d);
            DUE.is("13: so DEEP", x.depth(7), d);
            for (int sort = 0; sort < 3; sort++) {
                x.sheet(0, sort, 20);
                x.cell(0, 7, d);
                DUE.is("30: " + d + " in sort " + sort, x.judge(0), sort > 0 || d < 128 ? -1 : 7);
                x.cell(0, 7, d - 65536);
                DUE.is("38: 65536 less, in sort " + sort, x.judge(0), sort == 1 || sort == 0 && d < 128 ? -1 : 7);
                x.cell(0, 7, d - 256);
                DUE.is("38: 256 less, in sort " + sort, x.judge(0), sort == 0 && d < 128 ? -1 : 7);
            }
        }
        OneNet x = two(14);
        for (int v : new int[] {-128, 128, -1, 255, 1}) {
            x.sheet(0, 0, 20);
            x.cell(0, 19, v);
            DUE.is("38: " + v + " in a byte is not 0", x.judge(0), 19);
        }
        for (int v : new int[] {256, -256, 512, Integer.MIN_VALUE}) {
            x.sheet(0, 0, 20);
            x.cell(0, 19, v);
            DUE.is("38: " + v + " in a byte is 0", x.judge(0), -1);
        }
    }

    private static void everyPlace() {
        for (int k = 0; k < 20; k++) {
            OneNet x = two(k);
            x.tie(7, 1);
            x.tie(13, 1);
            x.sheet(0, 0, 20);
            DUE.is("31: all are TIED, so anywhere", x.where(0, 0), (1 << 20) - 1);
            x.tie(k, 0);
            x.cell(0, k, 24);
            int beside = k % 5 == 4 ? k - 1 : k + 1;
            for (int other = 0; other < 20; other++) {
                x.cord(k, other, other == beside ? 1 : 0);
            }
            DUE.is("31: only there", x.where(0, 0), 1 << k);
            x.lie(0, 19 - k);
            DUE.is("31: only there, lying elsewhere", x.where(0, 0), 1 << k);
            x.cell(0, k, 0);
            DUE.is("31: anywhere else", x.where(0, 0), (1 << 20) - 1 - (1 << k));
        }
    }

    private static void filmOfAll() {
        OneNet x = Nets.bare();
        for (int sort = -1; sort < 3; sort++) {
            x.sheet(3, sort, sort == 0 ? 40 : 3);
            DUE.is("32: 20", x.film(3), 20);
            DUE.is("32: truly", x.judge(3), -1);
            DUE.is("32: ints", x.sleepersBy(3, 2, 0, 0), 0);
            DUE.is("32: just 20", x.copy(3, 0, 3, 0, 20), 20);
            DUE.is("32: not more", x.copy(3, 0, 3, 0, 21), -12);
        }
        for (int k = 19; k >= 0; k--) {
            x.tie(k, 1);
            DUE.is("32: each knot, as it was", x.judge(3), k);
        }
        x.film(0);
        x.sheet(1, 2, 20);
        DUE.is("32: all 0", x.judge(0), -1);
        DUE.is("32: another sheet stays", x.judge(3), 0);
    }
}
