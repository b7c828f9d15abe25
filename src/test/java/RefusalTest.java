import java.util.List;

/**
 * Promises 2 to 41: of several refusals the first one told, each of them changing nothing; and what is asked changes
 * nothing.
 */
public final class RefusalTest {
    private static final Due DUE = new Due("RefusalTest");

    private static List<String> state;
    private static List<Long> due;

    public static void main(String[] args) {
        in(States.empty());
        nobody();
        in(States.some());
        firstTold();
        firstOfHost();
        sameAgain();
        in(States.full());
        noRoom();
        for (List<String> each : List.of(States.empty(), States.some(), States.full())) {
            in(each);
            asked();
        }
        DUE.end();
    }

    private static void in(List<String> calls) {
        state = calls;
        due = Look.at(Calls.made(new OneNet(), state));
    }

    /** The call answers so, and all stays as it was. */
    private static void still(int promise, String call, long answer) {
        OneNet x = Calls.made(new OneNet(), state);
        DUE.is(promise + ": " + call, Calls.answer(x, call), answer);
        DUE.isTrue(promise + ": " + call + " changes nothing", Look.at(x).equals(due));
    }

    /** In a new object there is no sleeper, no sheet, no image, but TEXT 0. */
    private static void nobody() {
        still(7, "force(1)", -2);
        still(11, "lie(0, 0)", -5);
        still(12, "told(0, 0)", -5);
        still(17, "rolled(0, 0)", -5);
        still(18, "felt(0, 1)", -5);
        still(19, "wakes(0, 0)", -5);
        still(21, "woken(0)", -5);
        still(22, "place(0, 0)", -5);
        still(28, "turned(1, 0)", -5);
        still(29, "laws(0, 0)", -5);
        still(36, "back()", OneNet.STATE);
        for (int s = 0; s < 4; s++) {
            still(30, Calls.call("judge", s), -11);
            still(31, Calls.call("where", s, 0), -11);
            still(38, Calls.call("cell", s, 0, 0), -11);
            still(39, Calls.call("copy", s, 0, s, 0, 0), -11);
            still(40, Calls.call("sleepersBy", s, 0, 0, 0), -11);
        }
        still(41, "taken(20, 0)", -11);
    }

    private static void firstTold() {
        still(2, "cord(0, 2, 9)", -5);
        still(4, "tie(20, 9)", -5);
        still(11, "lie(3, 20)", -5);
        still(12, "told(3, 6)", -5);
        still(17, "rolled(3, 21)", -5);
        still(18, "felt(1, 1)", -5);
        still(19, "wakes(3, 3)", -5);
        still(22, "place(3, 2)", -5);
        still(28, "turned(8, 2)", -5);
        still(29, "laws(3, 8)", -5);
    }

    private static void firstOfHost() {
        still(31, "where(4, 3)", -2);
        still(31, "where(3, 3)", -11);
        still(31, "where(1, 3)", -2);
        still(30, "judge(1)", -2);
        still(30, "judge(3)", -11);
        still(37, "sheet(4, 0, -1)", -2);
        still(37, "sheet(0, 3, -1)", -2);
        still(37, "sheet(0, -2, -1)", -2);
        still(38, "cell(4, -1, 0)", -2);
        still(38, "cell(3, -1, 0)", -11);
        still(39, "copy(4, 0, 3, -1, -1)", -2);
        still(39, "copy(3, 0, 4, -1, -1)", -2);
        still(39, "copy(3, 0, 0, -1, -1)", -11);
        still(39, "copy(0, -1, 3, 0, -1)", -11);
        still(39, "copy(0, -1, 1, 0, -1)", -13);
        still(40, "sleepersBy(4, 0, -1, 1)", -2);
        still(40, "sleepersBy(3, 3, -1, 1)", -2);
        still(40, "sleepersBy(3, 0, -1, 7)", -2);
        still(40, "sleepersBy(3, 0, -1, 1)", -11);
        still(40, "sleepersBy(0, 0, -1, 1)", -13);
        still(40, "sleepersBy(0, 1, -1, 1)", -13);
        still(40, "sleepersBy(2, 1, -1, 1)", -13);
        still(40, "sleepersBy(2, 2, -1, 1)", -13);
        still(40, "sleepersBy(0, 2, -1, 6)", -12);
        still(41, "taken(26, 7)", -2);
        still(41, "taken(-1, 6)", -12);
        still(41, "taken(23, 6)", -11);
        still(41, "taken(7, 5)", -13);
        still(41, "taken(20, 6)", -13);
    }

    /** Calls that are taken, but leave all as it was. */
    private static void sameAgain() {
        still(2, "cord(7, 8, 0)", 0);
        still(2, "cord(8, 9, 1)", 1);
        still(4, "tie(4, 0)", 0);
        still(4, "tie(0, 1)", 1);
        still(8, "force(1)", 1);
        still(11, "lie(0, 12)", 12);
        still(16, "roll(0)", 0);
        still(39, "copy(0, 0, 0, 0, 20)", 20);
        still(39, "copy(0, 20, 0, 20, 0)", 0);
        still(40, "sleepersBy(0, 2, 0, 0)", 0);
    }

    private static void noRoom() {
        still(6, "feed(1, 97, 0, 0, 0, 0)", OneNet.FULL);
        still(6, "feed(5, 97, 0, 0, 0, 0)", OneNet.FULL);
        still(6, "feed(6, 97, 0, 0, 0, 0)", -2);
        still(6, "feed(1, 97, 0, 0, 0, 256)", -2);
        still(7, "text()", OneNet.FULL);
        still(10, "sleeper(0, 100, 0)", OneNet.FULL);
        still(10, "sleeper(6, 100, 0)", -2);
        still(10, "sleeper(0, 9, 0)", -2);
        still(10, "sleeper(0, 100, 20)", -2);
        still(40, "sleepersBy(0, 2, 0, 6)", 0);
        still(40, "sleepersBy(3, 1, 0, 1)", -12);
    }

    private static void asked() {
        String[] calls = {"3: corded(7, 8)", "5: count(1)", "9: asks(0, 999, 20, 999, 199)", "9: asks(2, 0, 0, 0, 0)",
            "12: told(0, 4)", "13: depth(7)", "14: pull(7, 12)", "15: hang(0)", "15: hang(1)", "15: hang(2)",
            "15: hang(3)", "17: rolled(0, 20)", "18: felt(0, 1)", "19: wakes(0, 0)", "19: wakes(0, 1)",
            "19: wakes(0, 2)", "20: night()", "21: woken(0)", "22: place(0, 0)", "22: place(0, 1)", "22: place(2, 0)",
            "23: swap(0)", "23: swap(1)", "24: rest()", "25: order(0)", "25: order(1)", "26: mend(0)", "26: mend(1)",
            "27: rim(0)", "27: rim(1)", "28: turned(0, 0)", "28: turned(1, 1)", "29: laws(0, 0)", "29: laws(0, 6)",
            "30: judge(0)", "31: where(0, 0)", "33: drawn(7, 0)", "33: drawn(7, 1)", "34: odds(99999, 30, 0)",
            "34: odds(0, 1, 1)", "41: taken(7, 6)", "41: taken(20, 0)"};
        for (String told : calls) {
            String call = told.substring(told.indexOf(' ') + 1);
            OneNet x = Calls.made(new OneNet(), state);
            long first = Calls.answer(x, call);
            DUE.is(told + ", asked again", Calls.answer(x, call), first);
            DUE.isTrue(told + " changes nothing", Look.at(x).equals(due));
        }
    }
}
