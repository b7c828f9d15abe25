/** Promises 16 and 17: roll, rolled. */
public final class RollTest {
    private static final Due DUE = new Due("RollTest");

    public static void main(String[] args) {
        slopes();
        firstOfLike();
        firstOfAnyLike();
        allAtOnce();
        names();
        steep();
        ownWeight();
        twentyTimes();
        refusals();
        DUE.end();
    }

    /** Knot 1 between 0 and 2, which are TIED. */
    private static OneNet dip() {
        OneNet x = Nets.bare();
        x.tie(0, 1);
        x.tie(2, 1);
        x.cord(0, 1, 1);
        x.cord(1, 2, 1);
        return x;
    }

    private static void slopes() {
        OneNet x = dip();
        x.sleeper(0, 50, 1);
        x.sleeper(0, 10, 2);
        DUE.is("17: 2 deep is not above the slope", x.rolled(1, 1), 2);
        DUE.is("16: nobody goes", x.roll(5), 0);
        x = dip();
        x.sleeper(0, 60, 1);
        x.sleeper(0, 10, 2);
        DUE.is("17: 3 deep is", x.rolled(1, 1), 1);
        DUE.is("17: rolled(1, 0)", x.rolled(1, 0), 2);
        DUE.is("17: nothing is changed", x.told(1, 0), 2);
        DUE.is("16: roll(0)", x.roll(0), 0);
        DUE.is("16: went once in five times", x.roll(5), 1);
        DUE.is("16: truly", x.told(1, 0), 1);
        DUE.is("16: the other stays", x.told(0, 0), 1);
    }

    private static OneNet star() {
        OneNet x = Nets.bare();
        x.tie(7, 1);
        x.cord(7, 2, 1);
        x.cord(7, 6, 1);
        x.cord(7, 8, 1);
        x.cord(7, 12, 1);
        x.sleeper(0, 10, 7);
        return x;
    }

    private static void firstOfLike() {
        OneNet x = star();
        x.sleeper(0, 100, 12);
        x.sleeper(0, 100, 6);
        DUE.is("17: of like ones the first", x.rolled(0, 1), 6);
        x = star();
        x.sleeper(0, 110, 12);
        x.sleeper(0, 100, 6);
        DUE.is("17: the DEEPEST", x.rolled(0, 1), 12);
        x = star();
        x.sleeper(0, 110, 12);
        x.cord(7, 12, 0);
        DUE.is("17: only by a cord", x.rolled(0, 1), 7);
        x = Nets.bare();
        x.sleeper(0, 110, 12);
        DUE.is("17: without any cord", x.rolled(0, 20), 12);
    }

    /** Of the four knots beside, each set of like DEEPEST ones; alone, and one of the others less DEEP by 1. */
    private static void firstOfAnyLike() {
        int[] beside = {2, 6, 8, 12};
        for (int set = 1; set < 16; set++) {
            OneNet x = star();
            int first = -1;
            for (int i = 3; i >= 0; i--) {
                boolean isIn = (set >> i & 1) == 1;
                first = isIn ? beside[i] : first;
                x.sleeper(0, isIn ? 100 : 90, beside[i]);
            }
            DUE.is("17: the first of set " + set, x.rolled(0, 1), first);
            DUE.is("16: somebody went", x.roll(1), 1);
            DUE.is("16: the first of set " + set, x.told(0, 0), first);
        }
    }

    private static void allAtOnce() {
        // Knot 8 sinks to 7 by whom lies in 7; both in 6 and 8 go to 7 at the same time.
        OneNet x = Nets.bare();
        x.tie(6, 1);
        x.tie(8, 1);
        x.cord(6, 7, 1);
        x.cord(7, 8, 1);
        x.cord(8, 9, 1);
        x.sleeper(0, 40, 6);
        x.sleeper(0, 40, 8);
        x.sleeper(0, 100, 7);
        x.sleeper(0, 40, 9);
        // Knot 7: 10 by 2 is 5; knot 9: 4 by 1 is 4. Did those in 6 go first, 7 would be 7 deep.
        DUE.is("16: both went", x.roll(1), 1);
        DUE.is("16: from 6", x.told(0, 0), 7);
        DUE.is("16: from 8", x.told(1, 0), 7);
        DUE.is("16: the one in 9 stays", x.told(3, 0), 9);
        // A long way: two rounds are needed from 3 over 2 to 1.
        OneNet y = Nets.bare();
        y.tie(0, 1);
        y.tie(4, 1);
        for (int k = 0; k < 4; k++) {
            y.cord(k, k + 1, 1);
        }
        y.sleeper(3, 309, 1);
        y.sleeper(0, 10, 3);
        DUE.is("17: behind one", y.rolled(1, 1), 2);
        DUE.is("17: behind two", y.rolled(1, 2), 1);
        DUE.is("16: in two of ten", y.roll(10), 2);
    }

    private static int goes(String slope) {
        OneNet x = dip();
        x.sleeper(0, 60, 1);
        x.sleeper(1, 12, 2);
        Nets.obey(x, "felt 0; slope " + slope + "; bears 0;");
        return x.rolled(1, 1);
    }

    private static void names() {
        // Number 1 is HEAVY, TOLD 1, MORE 2, WEIGHS 9, lies at 2; knot 1 is 3 DEEP.
        DUE.is("17: slope 2", goes("2"), 1);
        DUE.is("17: slope 3", goes("3"), 2);
        DUE.is("17: told", goes("3 - (told = 1)"), 1);
        DUE.is("17: more", goes("3 - (more = 2)"), 1);
        DUE.is("17: far", goes("3 - (far = 0)"), 1);
        DUE.is("17: weight", goes("3 - (weight = 9)"), 1);
        DUE.is("17: knot", goes("3 - (knot = 2)"), 1);
        DUE.is("17: who", goes("3 - (who = 1)"), 1);
        DUE.is("17: slope 0 at least", goes("0 - 5"), 1);
    }

    private static void refusals() {
        OneNet x = new OneNet();
        DUE.is("16: roll(-1)", x.roll(-1), OneNet.BAD);
        DUE.is("16: roll(21)", x.roll(21), OneNet.BAD);
        DUE.is("16: roll(20), nobody there", x.roll(20), 0);
        DUE.is("17: no such one", x.rolled(0, 99), -5);
        x.sleeper(0, 10, 0);
        DUE.is("17: rolled(0, 21)", x.rolled(0, 21), -7);
        DUE.is("17: rolled(0, -1)", x.rolled(0, -1), -7);
        DUE.is("17: rolled(-1, 1)", x.rolled(-1, 1), -5);
        DUE.is("17: rolled(1, 1)", x.rolled(1, 1), -5);
        DUE.is("17: rolled(0, 20)", x.rolled(0, 20) >= 0 ? 1 : 0, 1);
    }

    /** Knot 1 is so DEEP, and who lies at 2, which is TIED, goes there if that is more than slope. */
    private static void steep() {
        int[] slopes = {0, 1, 98, 99};
        for (int slope : slopes) {
            for (int deep = slope - 1; deep <= slope + 1; deep++) {
                OneNet x = Nets.bare();
                x.tie(2, 1);
                x.cord(1, 2, 1);
                x.sleeper(0, 10, 2);
                Nets.weighDown(x, 1, deep);
                Nets.obey(x, "felt 0; slope " + slope + "; bears 0;");
                DUE.is("13: so DEEP", x.depth(1), Math.max(0, deep));
                DUE.is("17: " + deep + " by slope " + slope, x.rolled(0, 1), deep > slope ? 1 : 2);
                DUE.is("16: " + deep + " by slope " + slope, x.roll(1), deep > slope ? 1 : 0);
            }
        }
        OneNet x = Nets.bare();
        x.cord(1, 2, 1);
        x.sleeper(0, 10, 2);
        Nets.obey(x, "felt 0; slope 0 - 1; bears 0;");
        DUE.is("17: none is DEEPER, slope 0 at least", x.rolled(0, 1), 2);
    }

    private static void ownWeight() {
        OneNet x = dip();
        x.sleeper(0, 90, 1);
        x.sleeper(0, 20, 2);
        x.sleeper(0, 30, 2);
        Nets.obey(x, "felt 0; slope 99 - 99 * (weight = 3); bears 0;");
        DUE.is("17: weight is one's own", x.rolled(2, 1), 1);
        DUE.is("17: not another one's, who lies there", x.rolled(1, 1), 2);
    }

    /**
     * In each of 21 rounds somebody goes, one behind the other, till all lie at 16, number 0 last: found by a search,
     * and reckoned by the Model.
     */
    private static OneNet longWay() {
        OneNet x = Nets.bare();
        String cords = "0-1 0-5 1-2 1-6 2-3 2-7 4-9 5-6 5-10 6-7 6-11 7-8 7-12 8-9 10-11 10-15 11-12 13-14 14-19 15-16 "
                + "16-17 17-18 18-19";
        for (String cord : cords.split(" ")) {
            String[] ends = cord.split("-");
            x.cord(Integer.parseInt(ends[0]), Integer.parseInt(ends[1]), 1);
        }
        for (int k : new int[] {1, 3, 4, 13}) {
            x.tie(k, 1);
        }
        x.sleeper(0, 80, 4);
        x.sleeper(3, 180, 1);
        x.sleeper(3, 58, 13);
        x.sleeper(3, 238, 16);
        x.sleeper(0, 60, 3);
        Nets.obey(x, "felt 0; slope 0; bears 0;");
        return x;
    }

    private static void twentyTimes() {
        OneNet x = longWay();
        DUE.is("17: behind none", x.rolled(0, 0), 4);
        DUE.is("17: behind one", x.rolled(1, 1), 0);
        DUE.is("17: behind 18", x.rolled(0, 18), 11);
        DUE.is("17: behind 19", x.rolled(0, 19), 10);
        DUE.is("17: behind 20", x.rolled(0, 20), 15);
        DUE.is("17: one behind 21 is none", x.rolled(0, 21), -7);
        DUE.is("17: nothing is changed", x.told(0, 0), 4);
        DUE.is("16: none of none", x.roll(0), 0);
        DUE.is("16: one of one", x.roll(1), 1);
        DUE.is("16: one of one, truly", x.told(1, 0), 0);
        x = longWay();
        DUE.is("16: 19 of 19", x.roll(19), 19);
        DUE.is("16: it lies there", x.told(0, 0), 10);
        x = longWay();
        DUE.is("16: 21 are none", x.roll(21), OneNet.BAD);
        DUE.is("16: nobody went", x.told(0, 0), 4);
        DUE.is("16: 20 of 20", x.roll(20), 20);
        DUE.is("16: it lies there", x.told(0, 0), 15);
        DUE.is("16: the 21st is the last", x.roll(20), 1);
        DUE.is("16: nobody goes any more", x.roll(20), 0);
        DUE.is("16: it lies there", x.told(0, 0), 16);
    }
}
