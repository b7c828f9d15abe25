import java.util.Arrays;
import java.util.HashMap;
import java.util.List;
import java.util.Map;

/**
 * Promises 2 to 41: of each number that a call takes the least and the most are taken (and answered as the Model
 * does); one below, one above, and the farthest ints are refused, and a refused call changes nothing; whatever the
 * numbers are, no call throws.
 */
public final class BoundsTest {
    private static final Due DUE = new Due("BoundsTest");
    private static final int BAD = -2, NO_SUCH = -5, NOT_AS_TOLD = -7, OUTSIDE = -12, BELOW_0 = -14;

    /** By promise, from 2 on. */
    private static final String[] FACE = {"cord", "corded", "tie", "count", "feed", "text", "force", "asks", "sleeper",
        "lie", "told", "depth", "pull", "hang", "roll", "rolled", "felt", "wakes", "night", "woken", "place", "swap",
        "rest", "order", "mend", "rim", "turned", "laws", "judge", "where", "film", "drawn", "odds", "image", "back",
        "sheet", "cell", "copy", "sleepersBy", "taken"};
    private static final int[] FARTHEST = {Integer.MIN_VALUE, Integer.MIN_VALUE + 1, -65536, -256, -1, 0, 1, 2, 3, 5, 6,
        19, 20, 31, 32, 40, 41, 63, 64, 255, 256, 65536, Integer.MAX_VALUE - 1, Integer.MAX_VALUE};

    private static List<String> state = States.some();
    private static final Map<List<String>, List<Long>> LOOKS = new HashMap<>();

    public static void main(String[] args) {
        net();
        sleepers();
        askedOfAll();
        asked();
        sheets();
        state = States.full();
        full();
        for (List<String> each : List.of(States.empty(), States.some(), States.full())) {
            state = each;
            alike();
        }
        DUE.end();
    }

    private static void net() {
        bound(2, "cord(6, 7, 0)", 2, 0, 1, NOT_AS_TOLD);
        bound(4, "tie(7, 1)", 0, 0, 19, NO_SUCH);
        bound(4, "tie(7, 1)", 1, 0, 1, NOT_AS_TOLD);
        bound(5, "count(0)", 0, 0, 5, BAD);
        bound(6, "feed(1, 97, 98, 99, 100, 101)", 0, 1, 5, BAD);
        for (int b = 1; b <= 5; b++) {
            bound(6, "feed(1, 97, 98, 99, 100, 101)", b, 0, 255, BAD);
            bound(6, "feed(5, 97, 98, 99, 100, 101)", b, 0, 255, BAD);
        }
        bound(8, "force(0)", 0, 0, 2, BAD);
        int[] most = {2, 999, 20, 999, 199};
        for (int i = 0; i < 5; i++) {
            bound(9, "asks(0, 57, 2, 31, 42)", i, 0, most[i], BAD);
            bound(9, "asks(2, 0, 0, 0, 0)", i, 0, most[i], BAD);
        }
    }

    private static void sleepers() {
        bound(10, "sleeper(0, 57, 8)", 0, 0, 5, BAD);
        bound(10, "sleeper(0, 57, 8)", 1, 10, 309, BAD);
        bound(10, "sleeper(0, 57, 8)", 2, 0, 19, BAD);
        bound(11, "lie(0, 8)", 0, 0, 2, NO_SUCH);
        bound(11, "lie(0, 8)", 1, 0, 19, NOT_AS_TOLD);
        bound(12, "told(0, 0)", 0, 0, 2, NO_SUCH);
        bound(12, "told(0, 0)", 1, 0, 5, NOT_AS_TOLD);
        bound(17, "rolled(0, 1)", 0, 0, 2, NO_SUCH);
        bound(17, "rolled(0, 1)", 1, 0, 20, NOT_AS_TOLD);
        bound(18, "felt(0, 1)", 0, 0, 2, NO_SUCH);
        bound(18, "felt(1, 0)", 1, 0, 2, NO_SUCH);
        bound(19, "wakes(0, 0)", 0, 0, 2, NO_SUCH);
        bound(19, "wakes(0, 0)", 1, 0, 2, NOT_AS_TOLD);
        bound(21, "woken(0)", 0, 0, 2, NO_SUCH);
        bound(22, "place(0, 0)", 0, 0, 2, NO_SUCH);
        bound(22, "place(0, 0)", 1, 0, 1, NOT_AS_TOLD);
        bound(29, "laws(0, 0)", 0, 0, 2, NO_SUCH);
        bound(29, "laws(0, 0)", 1, 0, 7, NOT_AS_TOLD);
        bound(31, "where(0, 0)", 1, 0, 2, NO_SUCH);
    }

    private static void askedOfAll() {
        bound(13, "depth(7)", 0, 0, 19, NO_SUCH);
        bound(15, "hang(0)", 0, 0, 3, BAD);
        bound(16, "roll(1)", 0, 0, 20, BAD);
        bound(23, "swap(0)", 0, 0, 1, BAD);
        bound(25, "order(0)", 0, 0, 1, BAD);
        bound(26, "mend(0)", 0, 0, 1, BAD);
        bound(27, "rim(0)", 0, 0, 1, BAD);
        bound(28, "turned(0, 0)", 0, 0, 7, NO_SUCH);
        bound(28, "turned(0, 0)", 1, 0, 1, NOT_AS_TOLD);
    }

    private static void asked() {
        bound(33, "drawn(7, 0)", 0, 0, 99999, BAD);
        bound(33, "drawn(7, 0)", 1, 0, 1, BAD);
        bound(34, "odds(7, 3, 0)", 0, 0, 99999, OneNet.NO);
        bound(34, "odds(7, 3, 0)", 1, 1, 30, OneNet.NO);
        bound(34, "odds(7, 3, 0)", 2, 0, 1, OneNet.NO);
        bound(41, "taken(7, 6)", 0, 0, 25, OUTSIDE);
        bound(41, "taken(7, 6)", 1, 0, 6, BAD);
    }

    private static void sheets() {
        bound(30, "judge(0)", 0, 0, 3, BAD);
        bound(31, "where(0, 0)", 0, 0, 3, BAD);
        bound(32, "film(0)", 0, 0, 3, BAD);
        bound(37, "sheet(0, 0, 5)", 0, 0, 3, BAD);
        bound(37, "sheet(0, 0, 5)", 1, -1, 2, BAD);
        for (int sort = 0; sort < 3; sort++) {
            bound(37, Calls.call("sheet", 0, sort, 5), 2, 0, 40, BELOW_0, BAD);
        }
        bound(38, "cell(0, 0, 5)", 0, 0, 3, BAD);
        bound(38, "cell(0, 0, 5)", 1, 0, 19, OUTSIDE);
        bound(39, "copy(0, 0, 0, 0, 1)", 0, 0, 3, BAD);
        bound(39, "copy(0, 0, 0, 0, 1)", 1, 0, 19, OUTSIDE);
        bound(39, "copy(0, 0, 0, 0, 1)", 2, 0, 3, BAD);
        bound(39, "copy(0, 0, 0, 0, 1)", 3, 0, 19, OUTSIDE);
        bound(39, "copy(0, 0, 0, 0, 1)", 4, 0, 20, OUTSIDE);
        bound(40, "sleepersBy(0, 2, 0, 1)", 0, 0, 3, BAD);
        bound(40, "sleepersBy(0, 2, 0, 1)", 1, 0, 2, BAD);
        bound(40, "sleepersBy(0, 2, 0, 1)", 2, 0, 17, OUTSIDE);
        bound(40, "sleepersBy(0, 2, 0, 1)", 3, 0, 6, BAD);
    }

    /** What the numbers of sleepers, of TEXTS and of places may be, when there is no room for more. */
    private static void full() {
        bound(8, "force(0)", 0, 0, 5, BAD);
        bound(11, "lie(0, 8)", 0, 0, 5, NO_SUCH);
        bound(12, "told(0, 0)", 0, 0, 5, NO_SUCH);
        bound(17, "rolled(0, 1)", 0, 0, 5, NO_SUCH);
        bound(18, "felt(0, 1)", 0, 0, 5, NO_SUCH);
        bound(18, "felt(1, 0)", 1, 0, 5, NO_SUCH);
        bound(19, "wakes(0, 0)", 0, 0, 5, NO_SUCH);
        bound(21, "woken(0)", 0, 0, 5, NO_SUCH);
        bound(22, "place(0, 0)", 0, 0, 5, NO_SUCH);
        bound(28, "turned(0, 0)", 0, 0, 63, NO_SUCH);
        bound(29, "laws(0, 0)", 0, 0, 5, NO_SUCH);
        bound(29, "laws(0, 0)", 1, 0, 63, NOT_AS_TOLD);
        bound(38, "cell(0, 0, 5)", 1, 0, 39, OUTSIDE);
        bound(39, "copy(0, 0, 0, 0, 1)", 1, 0, 39, OUTSIDE);
        bound(39, "copy(0, 0, 0, 0, 1)", 3, 0, 39, OUTSIDE);
        bound(39, "copy(0, 0, 0, 0, 1)", 4, 0, 40, OUTSIDE);
        bound(40, "sleepersBy(0, 2, 0, 1)", 2, 0, 37, OUTSIDE);
        bound(41, "taken(20, 0)", 0, 0, 25, OUTSIDE);
    }

    /** Every call, all numbers of it being the same, from the least int to the greatest: none throws. */
    private static void alike() {
        for (int i = 0; i < FACE.length; i++) {
            int[] numbers = new int[Calls.size(new OneNet(), FACE[i])];
            for (int v : FARTHEST) {
                Arrays.fill(numbers, v);
                String call = Calls.call(FACE[i], numbers);
                long got = Calls.answer(Calls.made(new OneNet(), state), call);
                DUE.is(2 + i + ": " + call, got, Calls.answer(Calls.made(new Model(), state), call));
            }
        }
    }

    private static void bound(int promise, String call, int at, int least, int most, long refusal) {
        bound(promise, call, at, least, most, refusal, refusal);
    }

    private static void bound(int promise, String call, int at, int least, int most, long below, long above) {
        taken(promise, Calls.with(call, at, least), below);
        taken(promise, Calls.with(call, at, most), above);
        refused(promise, Calls.with(call, at, least - 1), below);
        refused(promise, Calls.with(call, at, Integer.MIN_VALUE), below);
        refused(promise, Calls.with(call, at, most + 1), above);
        refused(promise, Calls.with(call, at, Integer.MAX_VALUE), above);
    }

    private static void taken(int promise, String call, long refusal) {
        long got = Calls.answer(Calls.made(new OneNet(), state), call);
        DUE.isTrue(promise + ": " + call + " is taken", got != refusal);
        DUE.is(promise + ": " + call, got, Calls.answer(Calls.made(new Model(), state), call));
    }

    private static void refused(int promise, String call, long refusal) {
        OneNet x = Calls.made(new OneNet(), state);
        DUE.is(promise + ": " + call, Calls.answer(x, call), refusal);
        List<Long> due = LOOKS.computeIfAbsent(state, calls -> Look.at(Calls.made(new OneNet(), calls)));
        DUE.isTrue(promise + ": " + call + " changes nothing", Look.at(x).equals(due));
    }
}
