import java.util.ArrayList;
import java.util.Collections;
import java.util.List;

/** The calls that make nets on which much can be tried. */
final class States {
    private States() {
    }

    /** A new object. */
    static List<String> empty() {
        return List.of();
    }

    /**
     * Sleepers 0 to 2; TEXTS 0 to 2, of which 1 is THE LAW; a text on the tape; sheets of 20 ints, of 9 shorts, of
     * 6 bytes, and a missing one; an image of another net, in which nobody lies.
     */
    static List<String> some() {
        List<String> calls = new ArrayList<>(List.of("cord(0, 1, 0)", "tie(12, 1)", "image()",
                "cord(0, 1, 1)", "cord(7, 8, 0)", "tie(12, 0)", "tie(4, 0)",
                "sleeper(1, 83, 12)", "sleeper(2, 59, 11)", "sleeper(5, 94, 7)"));
        read(calls, "felt 14-far;slope 1;bears 9;");
        read(calls, "felt told;slope more;bears knot;");
        calls.add("force(1)");
        calls.addAll(Calls.feeding("felt 9;slope 8;bears 7;"));
        sheet(calls, 0, 2, 20);
        sheet(calls, 1, 1, 9);
        sheet(calls, 2, 0, 6);
        return calls;
    }

    /** Six sleepers, six TEXTS, 160 bytes on the tape, sheets of 40 ints, of 40 bytes, of 3 and of no shorts. */
    static List<String> full() {
        List<String> calls = new ArrayList<>(List.of("cord(0, 5, 0)", "tie(7, 1)", "image()", "cord(0, 5, 1)"));
        for (int s = 0; s < 6; s++) {
            calls.add(Calls.call("sleeper", s, 10 * (3 + s) + s, 6 + s));
        }
        for (int t = 1; t < 6; t++) {
            read(calls, "felt 9-far;slope 1;bears " + t + ";");
        }
        calls.add("force(5)");
        calls.addAll(Collections.nCopies(32, "feed(5, 97, 98, 99, 100, 101)"));
        sheet(calls, 0, 2, 40);
        sheet(calls, 1, 0, 40);
        sheet(calls, 2, 1, 3);
        sheet(calls, 3, 1, 0);
        return calls;
    }

    private static void read(List<String> calls, String text) {
        calls.addAll(Calls.feeding(text));
        calls.add("text()");
    }

    /** Three by three numbers of sleepers, each of which has a byte's room. */
    private static void sheet(List<String> calls, int s, int sort, int size) {
        calls.add(Calls.call("sheet", s, sort, size));
        int told = Math.min(6, size);
        for (int i = 0; i < told; i++) {
            calls.add(Calls.call("cell", s, i, new int[] {2, 105, 13, 3, 72, 19}[i]));
        }
        for (int has = told; has > 0 && has < size; has *= 2) {
            calls.add(Calls.call("copy", s, 0, s, has, Math.min(has, size - has)));
        }
    }
}
