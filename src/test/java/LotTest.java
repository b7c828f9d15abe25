/** Promises 33 to 36: drawn, odds, image, back. */
public final class LotTest {
    private static final Due DUE = new Due("LotTest");

    public static void main(String[] args) {
        drawing();
        seeds();
        reckoning();
        passing();
        lowestTerms();
        images();
        oldOnes();
        imageOfNobody();
        imageOfSix();
        allAgain();
        DUE.end();
    }

    /** So many at one knot, who all wake by any turn. */
    private static OneNet heap(int size) {
        OneNet x = new OneNet();
        for (int s = 0; s < size; s++) {
            x.sleeper(0, 50, 7);
        }
        Nets.obey(x, "felt 99; slope 0; bears 0;");
        return x;
    }

    private static void drawing() {
        OneNet x = heap(6);
        // The lots of seed 7: 386168, 1460846352, 1741224500, 285379567, 1596966799, 1111361817.
        DUE.is("33: seed 7", x.drawn(7, 0), 2 + 32);
        DUE.is("33: seed 7", x.drawn(7, 1), 63 - 34);
        DUE.is("33: seed 0", x.drawn(0, 0), 6);
        DUE.is("33: seed 99999", x.drawn(99999, 0), 44);
        DUE.is("33: of fewer", heap(4).drawn(99999, 0), 12);
        DUE.is("33: nobody turns", heap(1).drawn(0, 0), 0);
        DUE.is("33: nobody turns, nobody wakes", heap(1).drawn(0, 1), 0);
        DUE.is("33: all turn, nobody wakes", heap(3).drawn(5, 1), 0);
        DUE.is("33: nobody there", new OneNet().drawn(0, 0), 0);
        DUE.is("33: seed -1", x.drawn(-1, 0), OneNet.BAD);
        DUE.is("33: seed 100000", x.drawn(100000, 0), OneNet.BAD);
        DUE.is("33: what 2", x.drawn(0, 2), OneNet.BAD);
        DUE.is("33: what -1", x.drawn(0, -1), OneNet.BAD);
        OneNet far = new OneNet();
        far.sleeper(0, 50, 0);
        far.sleeper(0, 50, 1);
        far.sleeper(0, 50, 2);
        Nets.obey(far, "felt 10 * (far < 2); slope 0; bears 0;");
        DUE.is("33: by the turns of 0 and 2", far.drawn(2, 0), 3);
        DUE.is("33: who turn don't wake", far.drawn(2, 1), 4);
    }

    private static void ratio(OneNet x, int seed, int seeds, long above, long below) {
        DUE.is("34: odds(" + seed + ", " + seeds + ", 0)", x.odds(seed, seeds, 0), above);
        DUE.is("34: odds(" + seed + ", " + seeds + ", 1)", x.odds(seed, seeds, 1), below);
    }

    private static void reckoning() {
        OneNet x = heap(2);
        ratio(x, 0, 30, 1, 2);
        ratio(x, 5, 20, 11, 20);
        ratio(x, 0, 1, 0, 1);
        ratio(x, 2, 1, 1, 1);
        ratio(x, 99999, 30, 17, 30);
        ratio(x, 0, 2, 0, 1);
        ratio(heap(1), 0, 3, 1, 1);
        ratio(new OneNet(), 0, 30, 1, 1);
        int[][] wrong = {{-1, 1, 0}, {100000, 1, 0}, {0, 0, 0}, {0, 31, 0}, {0, -1, 0}, {0, 1, 2}, {0, 1, -1}};
        for (int[] w : wrong) {
            DUE.is("34: odds" + java.util.Arrays.toString(w), x.odds(w[0], w[1], w[2]), OneNet.NO);
        }
    }

    private static void images() {
        OneNet x = new OneNet();
        DUE.is("36: there is none", x.back(), OneNet.STATE);
        x.sleeper(1, 51, 3);
        x.sleeper(2, 52, 4);
        x.cord(7, 8, 0);
        x.tie(12, 1);
        Nets.obey(x, "felt far; slope 0; bears 0;");
        DUE.is("35: image()", x.image(), 2);
        x.sleeper(0, 50, 9);
        x.lie(0, 19);
        x.cord(7, 8, 1);
        x.cord(0, 1, 0);
        x.tie(12, 0);
        x.tie(13, 1);
        x.force(0);
        Nets.read(x, "felt 9; slope 9; bears 9;");
        Nets.feed(x, "abc");
        x.sheet(0, 0, 1);
        DUE.is("36: back()", x.back(), 2);
        DUE.is("36: how many", x.count(0), 2);
        DUE.is("36: where one lay", x.told(0, 0), 3);
        DUE.is("36: KIND", x.told(0, 1), 1);
        DUE.is("36: one who came since", x.told(2, 0), -5);
        DUE.is("36: a cord that was none", x.corded(7, 8), 0);
        DUE.is("36: a cord that was one", x.corded(0, 1), 1);
        DUE.is("36: TIED", x.count(2), 1 + 16 + 4096 + 32768 + 524288);
        DUE.is("36: THE LAW", x.count(4), 1);
        DUE.is("36: THE LAW's word", x.asks(0, 0, 13, 0, 0), 13);
        DUE.is("36: TEXTS are not kept", x.count(3), 3);
        DUE.is("36: THE TAPE is not kept", x.count(5), 3);
        DUE.is("36: SHEETS are not kept", x.cell(0, 0, 1), 1);
    }

    private static void oldOnes() {
        OneNet x = new OneNet();
        x.sleeper(0, 50, 3);
        x.cord(0, 1, 0);
        x.cord(0, 5, 0);
        x.image();
        x.sleeper(1, 51, 0);
        DUE.is("36: felt, no way", x.felt(0, 1), 0);
        x.cord(0, 1, 1);
        DUE.is("36: felt, a way", x.felt(0, 1), 12 - 9);
        x.lie(1, 3);
        x.back();
        DUE.is("36: a new one has the number", x.sleeper(2, 92, 0), 1);
        DUE.is("36: and is as told", x.told(1, 1), 2);
        DUE.is("36: ways are as the cords", x.felt(0, 1), 0);
        DUE.is("36: once more", x.back(), 1);
        x.image();
        x.lie(0, 7);
        x.image();
        x.lie(0, 8);
        x.back();
        DUE.is("36: the last image", x.told(0, 0), 7);
    }

    /** Of seeds the least, the most, and those with the least and the greatest first lot; for none to six sleepers. */
    private static void seeds() {
        int[] seeds = {0, 44487, 44488, 88976, 99998, 99999};
        // 44487: 2147480248, 1983410518, 2093163824, 5356954, 887488894, 1972611918; 88976: 41473, 2001943183,
        // 1182755240, 1925434545, 1706163182, 57612225; 99999: 532132706, 525949559, 559487655, 274249833, ..
        int[] turning = {6, 32, 2, 8 + 32, 8, 4 + 8 + 32};
        for (int size = 0; size <= 6; size++) {
            OneNet x = heap(size);
            for (int i = 0; i < seeds.length; i++) {
                int own = turning[i] & (1 << size) - 1;
                String call = "drawn(" + seeds[i] + ", ";
                DUE.is("33: " + call + "0) of " + size, x.drawn(seeds[i], 0), own);
                DUE.is("33: " + call + "1) of " + size, x.drawn(seeds[i], 1), own == 0 ? 0 : (1 << size) - 1 - own);
            }
        }
    }

    /** Three of whom only number 0 wakes anybody: by seed 100000 it turns, by 99998, 99999 and 0 it does not. */
    private static void passing() {
        OneNet x = new OneNet();
        for (int s = 0; s < 3; s++) {
            x.sleeper(0, 10 + s, 7);
        }
        Nets.obeyFelt(x, "10 * (more = 0)");
        ratio(x, 99999, 1, 1, 1);
        ratio(x, 99998, 2, 1, 1);
        ratio(x, 99999, 2, 1, 2);
        ratio(x, 99998, 3, 2, 3);
        DUE.is("33: no further", x.drawn(100000, 0), OneNet.BAD);
        DUE.is("34: no further", x.odds(100000, 1, 0), OneNet.NO);
    }

    private static void lowestTerms() {
        OneNet calm = heap(6);
        Nets.obeyFelt(calm, "0");
        OneNet one = heap(1);
        for (int n = 1; n <= 30; n++) {
            ratio(calm, 99999, n, 1, 1);
            ratio(one, 0, n, 1, 1);
            ratio(new OneNet(), 0, n, 1, 1);
            OneNet wild = heap(6);
            int quiet = 0;
            for (int seed = 0; seed < n; seed++) {
                quiet += wild.drawn(seed, 1) == 0 ? 1 : 0;
            }
            long above = wild.odds(0, n, 0);
            long below = wild.odds(0, n, 1);
            DUE.is("34: in " + n + " seeds", above * n, quiet * below);
            int common = 1;
            for (int by = 2; by <= below; by++) {
                common = above % by == 0 && below % by == 0 ? by : common;
            }
            DUE.is("34: in lowest terms, " + above + " of " + below, common, 1);
        }
        DUE.is("34: none such is told by a long", calm.odds(0, 31, 0), -(1L << 62));
    }

    private static void imageOfNobody() {
        OneNet x = new OneNet();
        DUE.is("35: nobody", x.image(), 0);
        for (int s = 0; s < 6; s++) {
            x.sleeper(s, 50, s);
        }
        DUE.is("36: nobody is left", x.back(), 0);
        DUE.is("36: nobody is left", x.count(0), 0);
        DUE.is("36: not even the first", x.lie(0, 0), -5);
        DUE.is("36: there is room for six again", x.sleeper(5, 62, 9), 0);
        DUE.is("36: who is another one", x.told(0, 1), 5);
        DUE.is("36: at once again", x.back(), 0);
    }

    private static void imageOfSix() {
        OneNet x = heap(6);
        for (int k = 0; k < 20; k++) {
            x.cord(k, k + 1, 0);
            x.cord(k, k + 5, 0);
            x.tie(k, 1);
        }
        DUE.is("35: six", x.image(), 6);
        for (int k = 0; k < 20; k++) {
            x.cord(k, k + 1, 1);
            x.cord(k, k + 5, 1);
            x.tie(k, 0);
        }
        for (int s = 0; s < 6; s++) {
            x.lie(s, 19 - s);
        }
        DUE.is("36: six", x.back(), 6);
        DUE.is("36: no CORD", x.count(1), 0);
        DUE.is("36: all are TIED", x.count(2), (1 << 20) - 1);
        for (int s = 0; s < 6; s++) {
            DUE.is("36: where one lay", x.told(s, 0), 7);
        }
        x.cord(0, 1, 1);
        x.tie(9, 0);
        x.lie(5, 0);
        x.force(0);
        DUE.is("36: the image is still that", x.back(), 6);
        DUE.is("36: no CORD", x.count(1), 0);
        DUE.is("36: all are TIED", x.count(2), (1 << 20) - 1);
        DUE.is("36: where the last one lay", x.told(5, 0), 7);
        DUE.is("36: THE LAW", x.count(4), 1);
        x.force(0);
        DUE.is("35: another image comes for it", x.image(), 6);
        x.force(1);
        x.back();
        DUE.is("35: THE LAW of the last image", x.count(4), 0);
        DUE.is("36: a TEXT that came since is there", x.count(3), 2);
    }

    /** Behind back() all looks as it did when the image was kept. */
    private static void allAgain() {
        OneNet x = Calls.made(new OneNet(), States.some());
        x.image();
        OneNet y = Calls.made(new OneNet(), States.some());
        y.image();
        y.sleeper(3, 309, 19);
        y.sleeper(4, 10, 0);
        y.lie(0, 19);
        y.lie(2, 0);
        y.cord(0, 1, 0);
        y.cord(18, 19, 0);
        y.cord(7, 8, 1);
        y.tie(0, 0);
        y.tie(19, 0);
        y.tie(4, 1);
        y.force(2);
        y.roll(3);
        y.back();
        DUE.isTrue("36: all as in THE IMAGE", Look.at(x).equals(Look.at(y)));
        OneNet z = new OneNet();
        DUE.is("36: there is none", z.back(), OneNet.STATE);
        z.image();
        DUE.is("36: now there is one", z.back(), 0);
    }
}
