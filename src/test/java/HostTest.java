/** Promises 37 to 41: sheet, cell, copy, sleepersBy, taken. */
public final class HostTest {
    private static final Due DUE = new Due("HostTest");
    private static final int MOST = Integer.MAX_VALUE;

    public static void main(String[] args) {
        sheets();
        cells();
        copies();
        comers();
        takings();
        DUE.end();
    }

    private static void sheets() {
        OneNet x = new OneNet();
        DUE.is("37: sheet 4", x.sheet(4, 0, -1), OneNet.BAD);
        DUE.is("37: sheet -1", x.sheet(-1, 0, 1), OneNet.BAD);
        DUE.is("37: sort 3", x.sheet(0, 3, -1), OneNet.BAD);
        DUE.is("37: sort -2", x.sheet(0, -2, 1), OneNet.BAD);
        DUE.is("37: 41", x.sheet(0, 0, 41), OneNet.BAD);
        DUE.is("37: below 0", x.sheet(0, 0, -1), -14);
        DUE.is("37: still missing", x.cell(0, 0, 1), -11);
        DUE.is("37: 40", x.sheet(0, 0, 40), 1);
        DUE.is("37: its last", x.cell(0, 39, 1), 1);
        DUE.is("37: behind its last", x.cell(0, 40, 1), -12);
        DUE.is("37: of none", x.sheet(0, 1, 0), 1);
        DUE.is("37: it has no first", x.cell(0, 0, 1), -12);
        DUE.is("37: missing again", x.sheet(0, -1, 99), 1);
        DUE.is("37: missing again", x.cell(0, 0, 1), -11);
        x.sheet(3, 2, 20);
        x.cell(3, 5, 9);
        x.sheet(3, 2, 20);
        DUE.is("37: all 0", x.judge(3), -1);
    }

    /** What a sheet of a sort makes of a number: TOLD and MORE of who comes by it. */
    private static int kept(int sort, int v) {
        OneNet x = new OneNet();
        Nets.fill(x, 0, sort, 0, v, 0);
        return x.sleepersBy(0, sort, 0, 1) == 1 ? 10 * x.told(0, 2) + x.told(0, 3) : -1;
    }

    private static void cells() {
        OneNet x = new OneNet();
        DUE.is("38: sheet 4", x.cell(4, 0, 0), OneNet.BAD);
        DUE.is("38: sheet -1", x.cell(-1, 0, 0), OneNet.BAD);
        DUE.is("38: nothing there", x.cell(0, -1, 0), -11);
        x.sheet(0, 0, 3);
        DUE.is("38: place -1", x.cell(0, -1, 0), -12);
        DUE.is("38: place 3", x.cell(0, 3, 0), -12);
        DUE.is("38: the farthest place", x.cell(0, MOST, 0), -12);
        DUE.is("38: place 2", x.cell(0, 2, MOST), 1);
        DUE.is("38: a byte", kept(0, 100), 100);
        DUE.is("38: a byte's lowest 8 bits", kept(0, 256 + 100), 100);
        DUE.is("38: a byte's lowest 8 bits", kept(0, 256 - 156), 100);
        DUE.is("38: 200 is no byte from 0 on", kept(0, 200), -1);
        DUE.is("38: a short", kept(1, 300), 300);
        DUE.is("38: a short's lowest 16 bits", kept(1, 65536 * 7 + 300), 300);
        DUE.is("38: an int", kept(2, 300), 300);
        DUE.is("38: an int is whole", kept(2, 65536 + 300), -1);
    }

    private static void copies() {
        OneNet x = new OneNet();
        Nets.fill(x, 0, 2, 10, 11, 12, 13, 14);
        Nets.fill(x, 1, 2, 0, 0, 0, 0);
        Nets.fill(x, 2, 1, 0, 0, 0, 0);
        DUE.is("39: sheet 4", x.copy(4, 0, 0, 0, 1), OneNet.BAD);
        DUE.is("39: sheet -1", x.copy(0, 0, -1, 0, 1), OneNet.BAD);
        DUE.is("39: nothing there", x.copy(0, 0, 3, -1, 1), -11);
        DUE.is("39: nothing there", x.copy(3, 0, 0, -1, 1), -11);
        DUE.is("39: unlike sorts", x.copy(0, -1, 2, 0, 1), -13);
        int[][] outside = {{-1, 0, 1}, {0, -1, 1}, {0, 0, -1}, {0, 0, 5}, {4, 0, 2}, {0, 4, 1}, {5, 0, 1}, {6, 0, 0},
            {0, 5, 0}, {MOST, 0, 1}, {0, MOST, 1}, {1, 1, MOST}, {MOST, MOST, MOST}, {0, 0, Integer.MIN_VALUE}};
        for (int[] o : outside) {
            DUE.is("39: copy" + java.util.Arrays.toString(o), x.copy(0, o[0], 1, o[1], o[2]), -12);
        }
        DUE.is("39: none, at the ends", x.copy(0, 5, 1, 4, 0), 0);
        DUE.is("39: two", x.copy(0, 3, 1, 1, 2), 2);
        DUE.is("39: as it came", byPlace(x, 1, 0), 0);
        DUE.is("39: as it came", byPlace(x, 1, 1), 13);
        DUE.is("39: as it came", byPlace(x, 1, 2), 14);
        DUE.is("39: as it came", byPlace(x, 1, 3), 0);
        DUE.is("39: onto itself, up", x.copy(0, 0, 0, 1, 4), 4);
        int[] up = {10, 10, 11, 12, 13};
        for (int i = 0; i < 5; i++) {
            DUE.is("39: as they were", byPlace(x, 0, i), up[i]);
        }
        DUE.is("39: onto itself, down", x.copy(0, 2, 0, 0, 3), 3);
        int[] down = {11, 12, 13, 12, 13};
        for (int i = 0; i < 5; i++) {
            DUE.is("39: as they were", byPlace(x, 0, i), down[i]);
        }
    }

    /** A number of a sheet of ints, read as the 10 times TOLD, and MORE of who comes by it; 0 and others: 0. */
    private static int byPlace(OneNet x, int s, int i) {
        x.sheet(3, 2, 3);
        x.copy(s, i, 3, 1, 1);
        int before = x.count(0);
        x.image();
        int came = x.sleepersBy(3, 2, 0, 1);
        int found = came == 1 ? 10 * x.told(before, 2) + x.told(before, 3) : 0;
        x.back();
        x.sheet(3, -1, 0);
        return found;
    }

    private static void comers() {
        OneNet x = new OneNet();
        Nets.fill(x, 0, 1, 9, 1, 53, 7, 6, 50, 7, 2, 41, 8);
        DUE.is("40: sheet 4", x.sleepersBy(4, 1, 0, 1), OneNet.BAD);
        DUE.is("40: sheet -1", x.sleepersBy(-1, 1, 0, 1), OneNet.BAD);
        DUE.is("40: sort 3", x.sleepersBy(0, 3, 0, 1), OneNet.BAD);
        DUE.is("40: sort -1", x.sleepersBy(0, -1, 0, 1), OneNet.BAD);
        DUE.is("40: n 7", x.sleepersBy(0, 1, 0, 7), OneNet.BAD);
        DUE.is("40: n -1", x.sleepersBy(0, 1, 0, -1), OneNet.BAD);
        DUE.is("40: nothing there", x.sleepersBy(1, 1, -1, 1), -11);
        DUE.is("40: unlike sort", x.sleepersBy(0, 2, -1, 1), -13);
        DUE.is("40: place -1", x.sleepersBy(0, 1, -1, 1), -12);
        DUE.is("40: the farthest place", x.sleepersBy(0, 1, MOST, 1), -12);
        DUE.is("40: the farthest place", x.sleepersBy(0, 1, Integer.MIN_VALUE, 6), -12);
        DUE.is("40: none of them", x.sleepersBy(0, 1, 1, 0), 0);
        DUE.is("40: nobody came", x.count(0), 0);
        DUE.is("40: two of three", x.sleepersBy(0, 1, 1, 3), 2);
        DUE.is("40: the first", x.told(0, 1) * 1000 + x.told(0, 2) * 10 + x.told(0, 3), 1053);
        DUE.is("40: the first one's knot", x.told(0, 0), 7);
        DUE.is("40: the other", x.told(1, 1) * 1000 + x.told(1, 2) * 10 + x.told(1, 3), 2041);
        DUE.is("40: what stood ahead came", x.sleepersBy(0, 1, 7, 2), -12);
        DUE.is("40: it came", x.count(0), 3);
        DUE.is("40: not all three of it stand there", x.sleepersBy(0, 1, 8, 1), -12);
        DUE.is("40: three come", x.sleepersBy(0, 1, 1, 3) + x.sleepersBy(0, 1, 7, 1), 3);
        DUE.is("40: no room for more", x.sleepersBy(0, 1, 1, 3), 0);
        DUE.is("40: outside, though there is no room", x.sleepersBy(0, 1, 1, 4), -12);
        DUE.is("40: six", x.count(0), 6);
    }

    private static void takings() {
        int[][] is = {{0}, {0, 1}, {0, 2}, {0, 1, 3}, {0, 2, 4}, {0, 5}};
        for (int own = 0; own < 6; own++) {
            OneNet x = new OneNet();
            x.sleeper(0, 10, 0);
            x.sleeper(own, 10, 0);
            for (int kind = 0; kind < 7; kind++) {
                int want = -13;
                for (int k : is[own]) {
                    want = k == kind ? 1 : want;
                }
                DUE.is("41: a kind " + own + " taken for " + kind, x.taken(21, kind), want);
            }
        }
        OneNet x = new OneNet();
        DUE.is("41: TIED", x.taken(0, 6), 1);
        DUE.is("41: not TIED", x.taken(1, 6), 0);
        DUE.is("41: TIED, the last", x.taken(19, 6), 1);
        DUE.is("41: a knot is no SLEEPER", x.taken(1, 0), -13);
        DUE.is("41: nobody", x.taken(20, 6), -11);
        DUE.is("41: nobody", x.taken(25, 0), -11);
        DUE.is("41: place 26", x.taken(26, 0), -12);
        DUE.is("41: place -1", x.taken(-1, 6), -12);
        DUE.is("41: kind 7", x.taken(99, 7), OneNet.BAD);
        DUE.is("41: kind -1", x.taken(0, -1), OneNet.BAD);
        x.cord(0, 1, 0);
        DUE.is("41: one cord is left", x.taken(0, 6), 1);
        x.cord(0, 5, 0);
        DUE.is("41: no cord is left", x.taken(0, 6), -11);
        DUE.is("41: no cord is left", x.taken(0, 0), -11);
    }
}
