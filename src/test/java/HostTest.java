/** Promises 37 to 41: sheet, cell, copy, sleepersBy, taken. */
public final class HostTest {
    private static final Due DUE = new Due("HostTest");
    private static final int MOST = Integer.MAX_VALUE;

    public static void main(String[] args) {
        sheets();
        missing();
        leastAndMostRows();
        cells();
        lowestBits();
        copies();
        wholeRows();
        comers();
        comersAtTheEnds();
        noneOfThem();
        takings();
        everyPlace();
        DUE.end();
    }

    private static void sheets() {
        OneNet x = new OneNet();
        DUE.is("37: sheet 4", x.sheet(4, 0, -1), OneNet.BAD);
        DUE.is("37: sheet -1", x.sheet(-1, 0, 1), OneNet.BAD);
        DUE.is("37: sort 3", x.sheet(0, 3, -1), OneNet.BAD);
        DUE.is("37: sort -2", x.sheet(0, -2, 1), OneNet.BAD);
        DUE.is("37: 41", x.sheet(0, 0, 41), OneNet.BAD);
        DUE.is("37: below 0", x.sheet(0, 0, -1), -14);
        DUE.is("37: still missing", x.cell(0, 0, 1), -11);
        DUE.is("37: 40", x.sheet(0, 0, 40), 1);
        DUE.is("37: its last", x.cell(0, 39, 1), 1);
        DUE.is("37: behind its last", x.cell(0, 40, 1), -12);
        DUE.is("37: of none", x.sheet(0, 1, 0), 1);
        DUE.is("37: it has no first", x.cell(0, 0, 1), -12);
        DUE.is("37: missing again", x.sheet(0, -1, 99), 1);
        DUE.is("37: missing again", x.cell(0, 0, 1), -11);
        x.sheet(3, 2, 20);
        x.cell(3, 5, 9);
        x.sheet(3, 2, 20);
        DUE.is("37: all 0", x.judge(3), -1);
    }

    /** What a sheet of a sort makes of a number: TOLD and MORE of who comes by it. */
    private static int kept(int sort, int v) {
        OneNet x = new OneNet();
        Nets.fill(x, 0, sort, 0, v, 0);
        return x.sleepersBy(0, sort, 0, 1) == 1 ? 10 * x.told(0, 2) + x.told(0, 3) : -1;
    }

    private static void cells() {
        OneNet x = new OneNet();
        DUE.is("38: sheet 4", x.cell(4, 0, 0), OneNet.BAD);
        DUE.is("38: sheet -1", x.cell(-1, 0, 0), OneNet.BAD);
        DUE.is("38: nothing there", x.cell(0, -1, 0), -11);
        x.sheet(0, 0, 3);
        DUE.is("38: place -1", x.cell(0, -1, 0), -12);
        DUE.is("38: place 3", x.cell(0, 3, 0), -12);
        DUE.is("38: the farthest place", x.cell(0, MOST, 0), -12);
        DUE.is("38: place 2", x.cell(0, 2, MOST), 1);
        DUE.is("38: a byte", kept(0, 100), 100);
        DUE.is("38: a byte's lowest 8 bits", kept(0, 256 + 100), 100);
        DUE.is("38: a byte's lowest 8 bits", kept(0, 100 - 256), 100);
        DUE.is("38: 200 is no byte from 0 on", kept(0, 200), -1);
        DUE.is("38: a short", kept(1, 300), 300);
        DUE.is("38: a short's lowest 16 bits", kept(1, 65536 * 7 + 300), 300);
        DUE.is("38: an int", kept(2, 300), 300);
        DUE.is("38: an int is whole", kept(2, 65536 + 300), -1);
    }

    private static void copies() {
        OneNet x = new OneNet();
        Nets.fill(x, 0, 2, 10, 11, 12, 13, 14);
        Nets.fill(x, 1, 2, 0, 0, 0, 0);
        Nets.fill(x, 2, 1, 0, 0, 0, 0);
        DUE.is("39: sheet 4", x.copy(4, 0, 0, 0, 1), OneNet.BAD);
        DUE.is("39: sheet -1", x.copy(0, 0, -1, 0, 1), OneNet.BAD);
        DUE.is("39: nothing there", x.copy(0, 0, 3, -1, 1), -11);
        DUE.is("39: nothing there", x.copy(3, 0, 0, -1, 1), -11);
        DUE.is("39: unlike sorts", x.copy(0, -1, 2, 0, 1), -13);
        int[][] outside = {{-1, 0, 1}, {0, -1, 1}, {0, 0, -1}, {0, 0, 5}, {4, 0, 2}, {0, 4, 1}, {5, 0, 1}, {6, 0, 0},
            {0, 5, 0}, {MOST, 0, 1}, {0, MOST, 1}, {1, 1, MOST}, {MOST, MOST, MOST}, {0, 0, Integer.MIN_VALUE}};
        for (int[] o : outside) {
            DUE.is("39: copy" + java.util.Arrays.toString(o), x.copy(0, o[0], 1, o[1], o[2]), -12);
        }
        DUE.is("39: none, at the ends", x.copy(0, 5, 1, 4, 0), 0);
        DUE.is("39: two", x.copy(0, 3, 1, 1, 2), 2);
        DUE.is("39: as it came", byPlace(x, 1, 0), 0);
        DUE.is("39: as it came", byPlace(x, 1, 1), 13);
        DUE.is("39: as it came", byPlace(x, 1, 2), 14);
        DUE.is("39: as it came", byPlace(x, 1, 3), 0);
        DUE.is("39: onto itself, up", x.copy(0, 0, 0, 1, 4), 4);
        int[] up = {10, 10, 11, 12, 13};
        for (int i = 0; i < 5; i++) {
            DUE.is("39: as they were", byPlace(x, 0, i), up[i]);
        }
        DUE.is("39: onto itself, down", x.copy(0, 2, 0, 0, 3), 3);
        int[] down = {11, 12, 13, 12, 13};
        for (int i = 0; i < 5; i++) {
            DUE.is("39: as they were", byPlace(x, 0, i), down[i]);
        }
    }

    /** A number of a sheet of ints, read as the 10 times TOLD, and MORE of who comes by it; 0 and others: 0. */
    private static int byPlace(OneNet x, int s, int i) {
        x.sheet(3, 2, 3);
        x.copy(s, i, 3, 1, 1);
        int before = x.count(0);
        x.image();
        int came = x.sleepersBy(3, 2, 0, 1);
        int found = came == 1 ? 10 * x.told(before, 2) + x.told(before, 3) : 0;
        x.back();
        x.sheet(3, -1, 0);
        return found;
    }

    private static void comers() {
        OneNet x = new OneNet();
        Nets.fill(x, 0, 1, 9, 1, 53, 7, 6, 50, 7, 2, 41, 8);
        DUE.is("40: sheet 4", x.sleepersBy(4, 1, 0, 1), OneNet.BAD);
        DUE.is("40: sheet -1", x.sleepersBy(-1, 1, 0, 1), OneNet.BAD);
        DUE.is("40: sort 3", x.sleepersBy(0, 3, 0, 1), OneNet.BAD);
        DUE.is("40: sort -1", x.sleepersBy(0, -1, 0, 1), OneNet.BAD);
        DUE.is("40: n 7", x.sleepersBy(0, 1, 0, 7), OneNet.BAD);
        DUE.is("40: n -1", x.sleepersBy(0, 1, 0, -1), OneNet.BAD);
        DUE.is("40: nothing there", x.sleepersBy(1, 1, -1, 1), -11);
        DUE.is("40: unlike sort", x.sleepersBy(0, 2, -1, 1), -13);
        DUE.is("40: place -1", x.sleepersBy(0, 1, -1, 1), -12);
        DUE.is("40: the farthest place", x.sleepersBy(0, 1, MOST, 1), -12);
        DUE.is("40: the farthest place", x.sleepersBy(0, 1, Integer.MIN_VALUE, 6), -12);
        DUE.is("40: none of them", x.sleepersBy(0, 1, 1, 0), 0);
        DUE.is("40: nobody came", x.count(0), 0);
        DUE.is("40: two of three", x.sleepersBy(0, 1, 1, 3), 2);
        DUE.is("40: the first", x.told(0, 1) * 1000 + x.told(0, 2) * 10 + x.told(0, 3), 1053);
        DUE.is("40: the first one's knot", x.told(0, 0), 7);
        DUE.is("40: the other", x.told(1, 1) * 1000 + x.told(1, 2) * 10 + x.told(1, 3), 2041);
        DUE.is("40: what stood ahead came", x.sleepersBy(0, 1, 7, 2), -12);
        DUE.is("40: it came", x.count(0), 3);
        DUE.is("40: not all three of it stand there", x.sleepersBy(0, 1, 8, 1), -12);
        DUE.is("40: three come", x.sleepersBy(0, 1, 1, 3) + x.sleepersBy(0, 1, 7, 1), 3);
        DUE.is("40: no room for more", x.sleepersBy(0, 1, 1, 3), 0);
        DUE.is("40: outside, though there is no room", x.sleepersBy(0, 1, 1, 4), -12);
        DUE.is("40: six", x.count(0), 6);
    }

    private static void takings() {
        int[][] is = {{0}, {0, 1}, {0, 2}, {0, 1, 3}, {0, 2, 4}, {0, 5}};
        for (int own = 0; own < 6; own++) {
            OneNet x = new OneNet();
            x.sleeper(0, 10, 0);
            x.sleeper(own, 10, 0);
            for (int kind = 0; kind < 7; kind++) {
                int want = -13;
                for (int k : is[own]) {
                    want = k == kind ? 1 : want;
                }
                DUE.is("41: a kind " + own + " taken for " + kind, x.taken(21, kind), want);
            }
        }
        OneNet x = new OneNet();
        DUE.is("41: TIED", x.taken(0, 6), 1);
        DUE.is("41: not TIED", x.taken(1, 6), 0);
        DUE.is("41: TIED, the last", x.taken(19, 6), 1);
        DUE.is("41: a knot is no SLEEPER", x.taken(1, 0), -13);
        DUE.is("41: nobody", x.taken(20, 6), -11);
        DUE.is("41: nobody", x.taken(25, 0), -11);
        DUE.is("41: place 26", x.taken(26, 0), -12);
        DUE.is("41: place -1", x.taken(-1, 6), -12);
        DUE.is("41: kind 7", x.taken(99, 7), OneNet.BAD);
        DUE.is("41: kind -1", x.taken(0, -1), OneNet.BAD);
        x.cord(0, 1, 0);
        DUE.is("41: one cord is left", x.taken(0, 6), 1);
        x.cord(0, 5, 0);
        DUE.is("41: no cord is left", x.taken(0, 6), -11);
        DUE.is("41: no cord is left", x.taken(0, 0), -11);
    }

    /** To be missing takes any n. */
    private static void missing() {
        for (int n : new int[] {Integer.MIN_VALUE, -1, 0, 40, 41, MOST}) {
            OneNet x = new OneNet();
            DUE.is("37: sheet(0, -1, " + n + ")", x.sheet(0, -1, n), 1);
            DUE.is("37: missing as ahead", x.cell(0, 0, 0), -11);
            x.sheet(0, 2, 40);
            DUE.is("37: sheet(0, -1, " + n + ")", x.sheet(0, -1, n), 1);
            DUE.is("38: missing", x.cell(0, 0, 0), -11);
            DUE.is("39: missing", x.copy(0, 0, 0, 0, 0), -11);
            DUE.is("40: missing", x.sleepersBy(0, 2, 0, 0), -11);
            DUE.is("30: missing", x.judge(0), -11);
        }
    }

    /** Rows of 0, 1 and 40, of each sort: their first and last numbers; all 0, though it was such a row before. */
    private static void leastAndMostRows() {
        for (int sort = 0; sort < 3; sort++) {
            OneNet x = new OneNet();
            DUE.is("37: none", x.sheet(3, sort, 0), 1);
            DUE.is("38: none has no first", x.cell(3, 0, 1), -12);
            DUE.is("39: none of none", x.copy(3, 0, 3, 0, 0), 0);
            DUE.is("39: one of none", x.copy(3, 0, 3, 0, 1), -12);
            DUE.is("37: one", x.sheet(3, sort, 1), 1);
            DUE.is("38: one has a first", x.cell(3, 0, 1), 1);
            DUE.is("38: one has no second", x.cell(3, 1, 1), -12);
            DUE.is("37: 41", x.sheet(3, sort, 41), OneNet.BAD);
            DUE.is("37: one less than none", x.sheet(3, sort, -1), -14);
            DUE.is("39: it is still one", x.copy(3, 0, 3, 0, 1), 1);
            DUE.is("37: 40", x.sheet(3, sort, 40), 1);
            for (int i = 37; i < 40; i++) {
                DUE.is("38: the last ones", x.cell(3, i, 12), 1);
            }
            DUE.is("38: no 41st", x.cell(3, 40, 1), -12);
            x.cell(3, 37, 0);
            DUE.is("40: the last three", x.sleepersBy(3, sort, 37, 1), 1);
            DUE.is("37: 40 again", x.sheet(3, sort, 40), 1);
            DUE.is("40: the last three are 0", x.sleepersBy(3, sort, 37, 1), 0);
            x.cell(3, 38, 12);
            DUE.is("40: but for what came since", x.sleepersBy(3, sort, 37, 1), 1);
            DUE.is("12: at knot 0", x.told(1, 0), 0);
        }
    }

    private static void lowestBits() {
        DUE.is("38: -156 in a byte", kept(0, -156), 100);
        DUE.is("38: 127 in a byte", kept(0, 127), 127);
        DUE.is("38: 128 in a byte is below 0", kept(0, 128), -1);
        DUE.is("38: 384 - 1 in a byte", kept(0, 383), 127);
        DUE.is("38: 300 in a byte", kept(0, 300), 44);
        DUE.is("38: the farthest in a byte", kept(0, Integer.MIN_VALUE + 100), 100);
        DUE.is("38: 65536 + 309 in a short", kept(1, 65536 + 309), 309);
        DUE.is("38: 309 - 65536 in a short", kept(1, 309 - 65536), 309);
        DUE.is("38: 32768 + 309 in a short is below 0", kept(1, 32768 + 309), -1);
        DUE.is("38: 309 - 32768 in a short is below 0", kept(1, 309 - 32768), -1);
        DUE.is("38: the farthest in a short", kept(1, Integer.MIN_VALUE + 309), 309);
        DUE.is("38: 309 in an int", kept(2, 309), 309);
        DUE.is("38: the farthest in an int", kept(2, Integer.MIN_VALUE + 309), -1);
        DUE.is("38: 65536 + 309 in an int", kept(2, 65536 + 309), -1);
        OneNet x = new OneNet();
        Nets.fill(x, 0, 2, Integer.MIN_VALUE, 50, 7, MOST, 50, 7, 0, 50, 7);
        DUE.is("38: the farthest ints are not 0", x.sleepersBy(0, 2, 0, 3), 1);
        DUE.is("38: any int comes", x.cell(0, 0, Integer.MIN_VALUE), 1);
    }

    /** Rows of 40, of 3 and of none: what just has room, and what would be one more. */
    private static void wholeRows() {
        OneNet x = new OneNet();
        x.sheet(0, 0, 40);
        x.sheet(1, 0, 3);
        x.sheet(2, 0, 0);
        DUE.is("39: all 40 onto themselves", x.copy(0, 0, 0, 0, 40), 40);
        DUE.is("39: 41", x.copy(0, 0, 0, 0, 41), -12);
        DUE.is("39: all of 3", x.copy(1, 0, 0, 37, 3), 3);
        DUE.is("39: one place farther on", x.copy(1, 0, 0, 38, 3), -12);
        DUE.is("39: one more than there are", x.copy(1, 0, 0, 0, 4), -12);
        DUE.is("39: one more than have room", x.copy(0, 0, 1, 0, 4), -12);
        DUE.is("39: the last of 40", x.copy(0, 39, 1, 2, 1), 1);
        DUE.is("39: behind the last", x.copy(0, 40, 1, 0, 1), -12);
        DUE.is("39: to behind the last", x.copy(0, 0, 1, 3, 1), -12);
        DUE.is("39: none, from and to the ends", x.copy(0, 40, 1, 3, 0), 0);
        DUE.is("39: none, from behind the end", x.copy(0, 41, 1, 0, 0), -12);
        DUE.is("39: none, to behind the end", x.copy(0, 0, 1, 4, 0), -12);
        DUE.is("39: none of no row's numbers", x.copy(2, 0, 1, 0, 0), 0);
        DUE.is("39: one of no row's numbers", x.copy(2, 0, 1, 0, 1), -12);
        DUE.is("39: n below 0", x.copy(0, 5, 1, 2, -1), -12);
        Nets.fill(x, 0, 2, 10, 11, 12, 13, 14);
        Nets.fill(x, 1, 2, 20, 21, 22, 23, 24);
        x.copy(0, 0, 1, 4, 1);
        x.copy(0, 4, 1, 0, 1);
        int[] want = {14, 21, 22, 23, 10};
        for (int i = 0; i < 5; i++) {
            DUE.is("39: what came, and what stays", byPlace(x, 1, i), want[i]);
            DUE.is("39: where they came from they stay", byPlace(x, 0, i), 10 + i);
        }
    }

    private static void comersAtTheEnds() {
        OneNet x = new OneNet();
        Nets.fill(x, 0, 0, 0, 11, 1, 1, 12, 2, 2, 13, 3, 3, 14, 4, 4, 15, 5, 5, 16, 6);
        x.sheet(1, 0, 17);
        x.copy(0, 0, 1, 0, 17);
        x.image();
        DUE.is("40: six", x.sleepersBy(0, 0, 0, 6), 6);
        for (int s = 0; s < 6; s++) {
            DUE.is("40: its KIND", x.told(s, 1), s);
            DUE.is("40: its MORE", x.told(s, 3), s + 1);
            DUE.is("40: its KNOT", x.told(s, 0), s + 1);
        }
        DUE.is("40: none has room", x.sleepersBy(0, 0, 0, 6), 0);
        x.back();
        DUE.is("40: five, the sixth lacks a number", x.sleepersBy(1, 0, 0, 6), -12);
        DUE.is("40: the five came", x.count(0), 5);
        DUE.is("40: one more has room", x.sleepersBy(0, 0, 12, 2), 1);
        DUE.is("40: the first of the two", x.told(5, 1), 4);
        x.back();
        DUE.is("40: the last three", x.sleepersBy(0, 0, 15, 1), 1);
        DUE.is("40: one place farther on", x.sleepersBy(0, 0, 16, 1), -12);
        DUE.is("40: two places farther on", x.sleepersBy(0, 0, 17, 1), -12);
        DUE.is("40: behind the end", x.sleepersBy(0, 0, 18, 1), -12);
        DUE.is("40: the first three", x.sleepersBy(0, 0, 0, 1), 1);
        DUE.is("40: one place ahead", x.sleepersBy(0, 0, -1, 1), -12);
        DUE.is("40: three places ahead", x.sleepersBy(0, 0, -3, 2), -12);
        DUE.is("40: two came in all", x.count(0), 2);
    }

    /** Who can't be a sleeper is left out, by whichever number; of 0 no place is looked at. */
    private static void noneOfThem() {
        int[][] wrong = {{-1, 50, 7}, {6, 50, 7}, {0, 9, 7}, {0, 310, 7}, {0, 50, -1}, {0, 50, 20}, {0, -50, 7}};
        for (int[] w : wrong) {
            OneNet x = new OneNet();
            Nets.fill(x, 0, 2, w[0], w[1], w[2], 5, 309, 19);
            DUE.is("40: left out, the other came " + java.util.Arrays.toString(w), x.sleepersBy(0, 2, 0, 2), 1);
            DUE.is("40: the other came", x.told(0, 1), 5);
            DUE.is("40: left out, and none behind", x.sleepersBy(0, 2, 0, 1), 0);
        }
        OneNet x = new OneNet();
        x.sheet(0, 2, 3);
        for (int at : new int[] {Integer.MIN_VALUE, -1, 0, 3, 4, MOST}) {
            DUE.is("40: none, from " + at + " on", x.sleepersBy(0, 2, at, 0), 0);
        }
    }

    private static void everyPlace() {
        OneNet x = new OneNet();
        for (int s = 0; s < 6; s++) {
            DUE.is("41: nobody yet", x.taken(20 + s, 0), -11);
            DUE.is("41: nobody yet, be it a knot", x.taken(20 + s, 6), -11);
            x.sleeper(s, 10, 0);
            DUE.is("41: number " + s, x.taken(20 + s, s), s);
            DUE.is("41: number " + s + " is a SLEEPER", x.taken(20 + s, 0), s);
            DUE.is("41: number " + s + " is no knot", x.taken(20 + s, 6), -13);
        }
        DUE.is("41: no seventh", x.taken(26, 0), -12);
        for (int k = 0; k < 20; k++) {
            for (int kind = 0; kind < 6; kind++) {
                DUE.is("41: a knot is of no KIND", x.taken(k, kind), -13);
            }
            OneNet y = Nets.bare();
            DUE.is("41: a knot without a cord", y.taken(k, 6), -11);
            y.tie(k, 1);
            DUE.is("41: a knot without a cord, TIED", y.taken(k, 6), -11);
            DUE.is("41: nothing there, whatever it is taken for", y.taken(k, 3), -11);
            int beside = k % 5 == 4 ? k - 1 : k + 1;
            y.cord(k, beside, 1);
            DUE.is("41: a knot with one cord, TIED", y.taken(k, 6), 1);
            DUE.is("41: the other end, not TIED", y.taken(beside, 6), 0);
        }
    }
}
