/** Promises 33 to 36: drawn, odds, image, back. */
public final class LotTest {
    private static final Due DUE = new Due("LotTest");

    public static void main(String[] args) {
        drawing();
        reckoning();
        images();
        oldOnes();
        DUE.end();
    }

    /** So many at one knot, who all wake by any turn. */
    private static OneNet heap(int size) {
        OneNet x = new OneNet();
        for (int s = 0; s < size; s++) {
            x.sleeper(0, 50, 7);
        }
        Nets.obey(x, "felt 99; slope 0; bears 0;");
        return x;
    }

    private static void drawing() {
        OneNet x = heap(6);
        // The lots of seed 7: 386168, 1460846352, 1741224500, 285379567, 1596966799, 1111361817.
        DUE.is("33: seed 7", x.drawn(7, 0), 2 + 32);
        DUE.is("33: seed 7", x.drawn(7, 1), 63 - 34);
        DUE.is("33: seed 0", x.drawn(0, 0), 6);
        DUE.is("33: seed 99999", x.drawn(99999, 0), 44);
        DUE.is("33: of fewer", heap(4).drawn(99999, 0), 12);
        DUE.is("33: nobody turns", heap(1).drawn(0, 0), 0);
        DUE.is("33: nobody turns, nobody wakes", heap(1).drawn(0, 1), 0);
        DUE.is("33: all turn, nobody wakes", heap(3).drawn(5, 1), 0);
        DUE.is("33: nobody there", new OneNet().drawn(0, 0), 0);
        DUE.is("33: seed -1", x.drawn(-1, 0), OneNet.BAD);
        DUE.is("33: seed 100000", x.drawn(100000, 0), OneNet.BAD);
        DUE.is("33: what 2", x.drawn(0, 2), OneNet.BAD);
        DUE.is("33: what -1", x.drawn(0, -1), OneNet.BAD);
        OneNet far = new OneNet();
        far.sleeper(0, 50, 0);
        far.sleeper(0, 50, 1);
        far.sleeper(0, 50, 2);
        Nets.obey(far, "felt 10 * (far < 2); slope 0; bears 0;");
        DUE.is("33: by the turns of 0 and 2", far.drawn(2, 0), 3);
        DUE.is("33: who turn don't wake", far.drawn(2, 1), 4);
    }

    private static void ratio(OneNet x, int seed, int seeds, long above, long below) {
        DUE.is("34: odds(" + seed + ", " + seeds + ", 0)", x.odds(seed, seeds, 0), above);
        DUE.is("34: odds(" + seed + ", " + seeds + ", 1)", x.odds(seed, seeds, 1), below);
    }

    private static void reckoning() {
        OneNet x = heap(2);
        ratio(x, 0, 30, 1, 2);
        ratio(x, 5, 20, 11, 20);
        ratio(x, 0, 1, 0, 1);
        ratio(x, 2, 1, 1, 1);
        ratio(x, 99999, 30, 17, 30);
        ratio(x, 0, 2, 0, 1);
        ratio(heap(1), 0, 3, 1, 1);
        ratio(new OneNet(), 0, 30, 1, 1);
        int[][] wrong = {{-1, 1, 0}, {100000, 1, 0}, {0, 0, 0}, {0, 31, 0}, {0, -1, 0}, {0, 1, 2}, {0, 1, -1}};
        for (int[] w : wrong) {
            DUE.is("34: odds" + java.util.Arrays.toString(w), x.odds(w[0], w[1], w[2]), OneNet.NO);
        }
    }

    private static void images() {
        OneNet x = new OneNet();
        DUE.is("36: there is none", x.back(), OneNet.STATE);
        x.sleeper(1, 51, 3);
        x.sleeper(2, 52, 4);
        x.cord(7, 8, 0);
        x.tie(12, 1);
        Nets.obey(x, "felt far; slope 0; bears 0;");
        DUE.is("35: image()", x.image(), 2);
        x.sleeper(0, 50, 9);
        x.lie(0, 19);
        x.cord(7, 8, 1);
        x.cord(0, 1, 0);
        x.tie(12, 0);
        x.tie(13, 1);
        x.force(0);
        Nets.read(x, "felt 9; slope 9; bears 9;");
        Nets.feed(x, "abc");
        x.sheet(0, 0, 1);
        DUE.is("36: back()", x.back(), 2);
        DUE.is("36: how many", x.count(0), 2);
        DUE.is("36: where one lay", x.told(0, 0), 3);
        DUE.is("36: KIND", x.told(0, 1), 1);
        DUE.is("36: one who came since", x.told(2, 0), -5);
        DUE.is("36: a cord that was none", x.corded(7, 8), 0);
        DUE.is("36: a cord that was one", x.corded(0, 1), 1);
        DUE.is("36: TIED", x.count(2), 1 + 16 + 4096 + 32768 + 524288);
        DUE.is("36: THE LAW", x.count(4), 1);
        DUE.is("36: THE LAW's word", x.asks(0, 0, 13, 0, 0), 13);
        DUE.is("36: TEXTS are not kept", x.count(3), 3);
        DUE.is("36: THE TAPE is not kept", x.count(5), 3);
        DUE.is("36: SHEETS are not kept", x.cell(0, 0, 1), 1);
    }

    private static void oldOnes() {
        OneNet x = new OneNet();
        x.sleeper(0, 50, 3);
        x.cord(0, 1, 0);
        x.cord(0, 5, 0);
        x.image();
        x.sleeper(1, 51, 0);
        DUE.is("36: felt, no way", x.felt(0, 1), 0);
        x.cord(0, 1, 1);
        DUE.is("36: felt, a way", x.felt(0, 1), 12 - 9);
        x.lie(1, 3);
        x.back();
        DUE.is("36: a new one has the number", x.sleeper(2, 92, 0), 1);
        DUE.is("36: and is as told", x.told(1, 1), 2);
        DUE.is("36: ways are as the cords", x.felt(0, 1), 0);
        DUE.is("36: once more", x.back(), 1);
        x.image();
        x.lie(0, 7);
        x.image();
        x.lie(0, 8);
        x.back();
        DUE.is("36: the last image", x.told(0, 0), 7);
    }
}
