/** Promises 10 to 12: sleeper, lie, told. */
public final class SleeperTest {
    private static final Due DUE = new Due("SleeperTest");

    public static void main(String[] args) {
        comers();
        kinds();
        leastAndMost();
        lying();
        six();
        DUE.end();
    }

    private static void comers() {
        OneNet x = new OneNet();
        DUE.is("10: KIND -1", x.sleeper(-1, 10, 0), OneNet.BAD);
        DUE.is("10: KIND 6", x.sleeper(6, 10, 0), OneNet.BAD);
        DUE.is("10: TOLD 0", x.sleeper(0, 9, 0), OneNet.BAD);
        DUE.is("10: TOLD 31", x.sleeper(0, 310, 0), OneNet.BAD);
        DUE.is("10: below 0", x.sleeper(0, -10, 0), OneNet.BAD);
        DUE.is("10: knot 20", x.sleeper(0, 10, 20), OneNet.BAD);
        DUE.is("10: knot -1", x.sleeper(0, 10, -1), OneNet.BAD);
        DUE.is("10: nobody came", x.count(0), 0);
        DUE.is("10: the least", x.sleeper(0, 10, 0), 0);
        DUE.is("10: the most", x.sleeper(5, 309, 19), 1);
        for (int s = 2; s < 6; s++) {
            DUE.is("10: one more", x.sleeper(s, 123, s), s);
        }
        DUE.is("10: FULL", x.sleeper(0, 10, 0), OneNet.FULL);
        DUE.is("10: BAD ahead of FULL", x.sleeper(0, 10, 20), OneNet.BAD);
        DUE.is("10: six", x.count(0), 6);
    }

    private static void kinds() {
        // By kind, with TOLD 7 and MORE 4: how much one weighs, at what one wakes.
        int[] weighs = {7, 23, 7, 46, 7, 7};
        int[] wakesAt = {10, 10, 6, 10, 11, 5};
        for (int kind = 0; kind < 6; kind++) {
            OneNet x = new OneNet();
            x.sleeper(kind, 74, 13);
            int[] want = {13, kind, 7, 4, weighs[kind], wakesAt[kind]};
            for (int what = 0; what < 6; what++) {
                DUE.is("12: kind " + kind + ", told(0, " + what + ")", x.told(0, what), want[what]);
            }
        }
        OneNet x = new OneNet();
        x.sleeper(2, 309, 0);
        x.sleeper(4, 309, 0);
        x.sleeper(3, 309, 0);
        x.sleeper(2, 300, 0);
        DUE.is("12: a THIN with MORE 9 wakes at", x.told(0, 5), 1);
        DUE.is("12: a SNORER with MORE 9 wakes at", x.told(1, 5), 6);
        DUE.is("12: BROTHERS at their most weigh", x.told(2, 4), 132);
        DUE.is("12: a THIN with MORE 0 wakes at", x.told(3, 5), 10);
        DUE.is("12: no such one", x.told(4, 0), -5);
        DUE.is("12: no such one", x.told(-1, 9), -5);
        DUE.is("12: what 6", x.told(0, 6), -7);
        DUE.is("12: what -1", x.told(0, -1), -7);
    }

    /** By KIND, with TOLD 1 and MORE 0, and with TOLD 30 and MORE 9: how much one WEIGHS, at what one WAKES. */
    private static void leastAndMost() {
        int[][] least = {{1, 10}, {1, 10}, {1, 10}, {2, 10}, {1, 15}, {1, 5}};
        int[][] most = {{30, 10}, {66, 10}, {30, 1}, {132, 10}, {30, 6}, {30, 5}};
        for (int kind = 0; kind < 6; kind++) {
            OneNet x = new OneNet();
            DUE.is("10: the least of KIND " + kind, x.sleeper(kind, 10, 0), 0);
            DUE.is("10: the most of KIND " + kind, x.sleeper(kind, 309, 19), 1);
            int[][] want = {{0, kind, 1, 0, least[kind][0], least[kind][1]}, {19, kind, 30, 9, most[kind][0], most[kind][1]}};
            for (int s = 0; s < 2; s++) {
                for (int what = 0; what < 6; what++) {
                    DUE.is("12: KIND " + kind + ", told(" + s + ", " + what + ")", x.told(s, what), want[s][what]);
                }
            }
        }
        OneNet x = new OneNet();
        x.sleeper(2, 18, 0);
        x.sleeper(2, 19, 0);
        x.sleeper(0, 20, 0);
        DUE.is("12: a THIN with MORE 8 WAKES at", x.told(0, 5), 2);
        DUE.is("12: a THIN with MORE 9, 1 at least", x.told(1, 5), 1);
        DUE.is("12: 19 is TOLD 1", x.told(1, 2), 1);
        DUE.is("12: 20 is TOLD 2", x.told(2, 2), 2);
        DUE.is("12: 20 is MORE 0", x.told(2, 3), 0);
    }

    private static void six() {
        OneNet x = new OneNet();
        for (int s = 0; s < 6; s++) {
            DUE.is("10: number " + s, x.sleeper(0, 10 + s, s), s);
            DUE.is("5: so many", x.count(0), s + 1);
        }
        DUE.is("10: a seventh", x.sleeper(5, 309, 19), OneNet.FULL);
        for (int s = 0; s < 6; s++) {
            DUE.is("10: number " + s + " stays where it was", x.told(s, 0), s);
            DUE.is("10: number " + s + " stays what it was", x.told(s, 3), s);
            DUE.is("11: to the last knot", x.lie(s, 19), s);
            DUE.is("11: to the first knot", x.lie(s, 0), 19);
            DUE.is("11: where it lies already", x.lie(s, 0), 0);
        }
        DUE.is("11: no seventh", x.lie(6, 0), -5);
        DUE.is("12: no seventh", x.told(6, 0), -5);
    }

    private static void lying() {
        OneNet x = new OneNet();
        DUE.is("11: nobody", x.lie(0, 0), -5);
        x.sleeper(0, 10, 7);
        DUE.is("11: lie(0, 12)", x.lie(0, 12), 7);
        DUE.is("11: lie(0, 12)", x.lie(0, 12), 12);
        DUE.is("11: lie(0, 20)", x.lie(0, 20), -7);
        DUE.is("11: lie(0, -1)", x.lie(0, -1), -7);
        DUE.is("11: lie(1, 20)", x.lie(1, 20), -5);
        DUE.is("11: lie(-1, 3)", x.lie(-1, 3), -5);
        DUE.is("11: where one lies", x.told(0, 0), 12);
    }
}
