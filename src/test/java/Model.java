import java.util.ArrayDeque;
import java.util.ArrayList;
import java.util.List;
import java.util.function.ToIntFunction;

/**
 * The document once more, written with the whole Java library and by brute force, so that random runs
 * of calls can be held against it. Its methods bear the names of OneNet's.
 */
final class Model {
    /** One who sleeps. */
    record One(int kind, int told, int more, int knot) {
        One at(int other) {
            return new One(kind, told, more, other);
        }

        boolean isA(int other) {
            int[] above = {-1, 0, 0, 1, 2, 0};
            for (int k = kind; k >= 0; k = above[k]) {
                if (k == other) {
                    return true;
                }
            }
            return false;
        }

        int weighs() {
            return switch (kind) {
                case 1 -> told + 4 * more;
                case 3 -> 2 * (told + 4 * more);
                default -> told;
            };
        }

        int wakesAt() {
            return switch (kind) {
                case 2 -> Math.max(1, 10 - more);
                case 4 -> Math.max(1, 10 - more) + 5;
                case 5 -> 5;
                default -> 10;
            };
        }

        int turns(int says) {
            int strong = switch (kind) {
                case 3 -> says + more;
                case 4 -> says + says;
                case 5 -> says - 2 * more;
                default -> says;
            };
            return Math.max(0, strong);
        }
    }

    /** What the names of a text mean. */
    record Names(int told, int more, int far, int weight, int knot, int who) {
    }

    record Text(ToIntFunction<Names> felt, ToIntFunction<Names> slope, ToIntFunction<Names> bears) {
        int says(int part, Names names) {
            int v = (part == 0 ? felt : part == 1 ? slope : bears).applyAsInt(names);
            return Math.max(0, Math.min(part == 2 ? 999 : 99, v));
        }
    }

    record Kept(boolean[][] cords, boolean[] ties, List<Integer> knots, int law) {
    }

    private boolean[][] cords = new boolean[20][20];
    private boolean[] ties = new boolean[20];
    private final List<One> ones = new ArrayList<>();
    private final List<Text> texts = new ArrayList<>();
    private int law = 0;
    private String tape = "";
    private final int[] sorts = {-1, -1, -1, -1};
    private final int[][] sheets = new int[4][];
    private Kept kept = null;

    Model() {
        for (int a = 0; a < 20; a++) {
            ties[a] = a == 0 || a == 4 || a == 15 || a == 19;
            for (int b = 0; b < 20; b++) {
                cords[a][b] = Nets.areBeside(a, b);
            }
        }
        texts.add(new ModelReader("felt more * 4 + 8 - far * 3 ; slope 2 ; bears 60 ;").text());
    }

    public int cord(int a, int b, int is) {
        if (!Nets.areBeside(a, b)) {
            return -5;
        }
        if (is < 0 || is > 1) {
            return -7;
        }
        int was = corded(a, b);
        cords[a][b] = is == 1;
        cords[b][a] = is == 1;
        return was;
    }

    public int corded(int a, int b) {
        return !Nets.areBeside(a, b) ? -5 : cords[a][b] ? 1 : 0;
    }

    public int tie(int k, int is) {
        if (k < 0 || k > 19) {
            return -5;
        }
        if (is < 0 || is > 1) {
            return -7;
        }
        int was = ties[k] ? 1 : 0;
        ties[k] = is == 1;
        return was;
    }

    public int count(int what) {
        int found = 0;
        switch (what) {
            case 0:
                return ones.size();
            case 1:
                for (int a = 0; a < 20; a++) {
                    for (int b = a; b < 20; b++) {
                        found += cords[a][b] ? 1 : 0;
                    }
                }
                return found;
            case 2:
                for (int k = 0; k < 20; k++) {
                    found += ties[k] ? 1 << k : 0;
                }
                return found;
            case 3:
                return texts.size();
            case 4:
                return law;
            case 5:
                return tape.length();
            default:
                return -2;
        }
    }

    public int feed(int n, int a, int b, int c, int d, int e) {
        int[] five = {a, b, c, d, e};
        if (n < 1 || n > 5) {
            return -2;
        }
        for (int v : five) {
            if (v < 0 || v > 255) {
                return -2;
            }
        }
        if (tape.length() + n > 160) {
            return -4;
        }
        for (int i = 0; i < n; i++) {
            tape += (char) five[i];
        }
        return tape.length();
    }

    public int text() {
        if (texts.size() == 6) {
            return -4;
        }
        String read = tape;
        tape = "";
        try {
            texts.add(new ModelReader(read).text());
            return texts.size() - 1;
        } catch (ModelReader.Fault fault) {
            return -100 - fault.place;
        }
    }

    public int force(int t) {
        if (t < 0 || t >= texts.size()) {
            return -2;
        }
        int was = law;
        law = t;
        return was;
    }

    public int asks(int part, int toldMore, int far, int weight, int knotWho) {
        if (part < 0 || part > 2 || toldMore < 0 || toldMore > 999 || far < 0 || far > 20 || weight < 0
                || weight > 999 || knotWho < 0 || knotWho > 199) {
            return -2;
        }
        return texts.get(law).says(part,
                new Names(toldMore / 10, toldMore % 10, far, weight, knotWho / 10, knotWho % 10));
    }

    public int sleeper(int kind, int toldMore, int knot) {
        int told = Math.floorDiv(toldMore, 10);
        if (kind < 0 || kind > 5 || told < 1 || told > 30 || knot < 0 || knot > 19) {
            return -2;
        }
        if (ones.size() == 6) {
            return -4;
        }
        ones.add(new One(kind, told, toldMore % 10, knot));
        return ones.size() - 1;
    }

    private boolean isOne(int s) {
        return s >= 0 && s < ones.size();
    }

    public int lie(int s, int knot) {
        if (!isOne(s)) {
            return -5;
        }
        if (knot < 0 || knot > 19) {
            return -7;
        }
        int was = ones.get(s).knot;
        ones.set(s, ones.get(s).at(knot));
        return was;
    }

    public int told(int s, int what) {
        if (!isOne(s)) {
            return -5;
        }
        One one = ones.get(s);
        int[] all = {one.knot, one.kind, one.told, one.more, one.weighs(), one.wakesAt()};
        return what < 0 || what > 5 ? -7 : all[what];
    }

    private int loadOf(List<One> in, int k) {
        return in.stream().filter(o -> o.knot == k).mapToInt(One::weighs).sum();
    }

    private int[] hanging(List<One> in) {
        int[] loads = new int[20];
        for (int k = 0; k < 20; k++) {
            loads[k] = loadOf(in, k);
        }
        int[] deep = new int[20];
        for (int round = 1; round <= 12; round++) {
            int[] next = new int[20];
            for (int k = 0; k < 20; k++) {
                int n = 0;
                int together = loads[k];
                for (int b = 0; b < 20; b++) {
                    if (cords[k][b]) {
                        n++;
                        together += deep[b];
                    }
                }
                next[k] = ties[k] ? 0 : n == 0 ? 999 : Math.min(999, together / n);
            }
            deep = next;
        }
        return deep;
    }

    private int deepestNow() {
        int most = 0;
        for (int d : hanging(ones)) {
            most = Math.max(most, d);
        }
        return most;
    }

    public int depth(int k) {
        return k < 0 || k > 19 ? -5 : hanging(ones)[k];
    }

    public int pull(int a, int b) {
        if (!Nets.areBeside(a, b)) {
            return -5;
        }
        int[] deep = hanging(ones);
        return cords[a][b] ? Math.abs(deep[a] - deep[b]) : 0;
    }

    public int hang(int what) {
        int[] deep = hanging(ones);
        int most = deepestNow();
        switch (what) {
            case 0:
                return most;
            case 1:
                for (int k = 0; ; k++) {
                    if (deep[k] == most) {
                        return k;
                    }
                }
            case 2:
                int torn = 0;
                for (int a = 0; a < 20; a++) {
                    for (int b = a + 1; b < 20; b++) {
                        int weight = loadOf(ones, a) + loadOf(ones, b);
                        int bears = texts.get(law).says(2, new Names(0, 0, 0, weight, a, 0));
                        torn += cords[a][b] && Math.abs(deep[a] - deep[b]) > bears ? 1 : 0;
                    }
                }
                return torn;
            case 3:
                int all = 0;
                for (int d : deep) {
                    all += d;
                }
                return all;
            default:
                return -2;
        }
    }

    public int roll(int n) {
        if (n < 0 || n > 20) {
            return -2;
        }
        int times = 0;
        for (int i = 0; i < n; i++) {
            int[] deep = hanging(ones);
            boolean went = false;
            for (int s = 0; s < ones.size(); s++) {
                One o = ones.get(s);
                int to = -1;
                for (int b = 19; b >= 0; b--) {
                    if (cords[o.knot][b] && (to < 0 || deep[b] >= deep[to])) {
                        to = b;
                    }
                }
                int slope = texts.get(law).says(1, new Names(o.told, o.more, 0, o.weighs(), o.knot, s));
                if (to >= 0 && deep[to] > deep[o.knot] + slope) {
                    ones.set(s, o.at(to));
                    went = true;
                }
            }
            times += went ? 1 : 0;
        }
        return times;
    }

    public int rolled(int s, int n) {
        if (!isOne(s)) {
            return -5;
        }
        if (n < 0 || n > 20) {
            return -7;
        }
        List<One> was = new ArrayList<>(ones);
        roll(n);
        int then = ones.get(s).knot;
        ones.clear();
        ones.addAll(was);
        return then;
    }

    private int far(int a, int b) {
        int[] far = new int[20];
        java.util.Arrays.fill(far, -1);
        ArrayDeque<Integer> next = new ArrayDeque<>();
        next.add(a);
        far[a] = 0;
        while (!next.isEmpty()) {
            int k = next.remove();
            for (int o = 0; o < 20; o++) {
                if (cords[k][o] && far[o] < 0) {
                    far[o] = far[k] + 1;
                    next.add(o);
                }
            }
        }
        return far[b];
    }

    private int feels(int s, int by) {
        One one = ones.get(s);
        One turner = ones.get(by);
        int far = far(one.knot, turner.knot);
        return far < 0 ? 0 : turner.turns(texts.get(law).says(0,
                new Names(turner.told, turner.more, far, one.weighs(), one.knot, s)));
    }

    public int felt(int s, int by) {
        return !isOne(s) || !isOne(by) || s == by ? -5 : feels(s, by);
    }

    private boolean isWoken(int s, int by) {
        return s != by && feels(s, by) >= ones.get(s).wakesAt();
    }

    private int wokenByAny(int turning) {
        int bits = 0;
        for (int s = 0; s < ones.size(); s++) {
            for (int by = 0; by < ones.size(); by++) {
                if ((turning >> by & 1) == 1 && isWoken(s, by)) {
                    bits |= 1 << s;
                }
            }
        }
        return bits;
    }

    public int wakes(int by, int what) {
        if (!isOne(by)) {
            return -5;
        }
        if (what < 0 || what > 2) {
            return -7;
        }
        int first = wokenByAny(1 << by);
        if (what == 0) {
            return first;
        }
        int rounds = 0;
        int ever = 0;
        int turning = 1 << by;
        while (true) {
            int woke = wokenByAny(turning) & ~(1 << by);
            if ((woke & ~ever) == 0) {
                return what == 1 ? ever : rounds;
            }
            rounds++;
            ever |= woke;
            turning = woke;
        }
    }

    public int night() {
        int together = 0;
        for (int s = 0; s < ones.size(); s++) {
            together += woken(s);
        }
        return together;
    }

    public int woken(int s) {
        if (!isOne(s)) {
            return -5;
        }
        int n = 0;
        for (int by = 0; by < ones.size(); by++) {
            n += isWoken(s, by) ? 1 : 0;
        }
        return n;
    }

    public int place(int s, int what) {
        if (!isOne(s)) {
            return -5;
        }
        if (what < 0 || what > 1) {
            return -7;
        }
        int lay = ones.get(s).knot;
        int[] then = new int[20];
        int best = 0;
        for (int k = 0; k < 20; k++) {
            lie(s, k);
            then[k] = night();
            best = then[k] < then[best] ? k : best;
        }
        lie(s, lay);
        return what == 0 ? best : then[best];
    }

    public int swap(int what) {
        if (what < 0 || what > 1) {
            return -2;
        }
        int least = night();
        int best = -1;
        for (int pair = 0; pair < 60; pair++) {
            int a = pair / 10;
            int b = pair % 10;
            if (a < b && isOne(b)) {
                int knotA = ones.get(a).knot;
                int knotB = ones.get(b).knot;
                lie(a, knotB);
                lie(b, knotA);
                if (night() < least) {
                    least = night();
                    best = pair;
                }
                lie(a, knotA);
                lie(b, knotB);
            }
        }
        return what == 0 ? best : least;
    }

    public int rest() {
        int calm = 1;
        for (int s = 0; s < ones.size(); s++) {
            int now = woken(s);
            int lay = ones.get(s).knot;
            for (int k = 0; k < 20; k++) {
                int knot = k;
                if (ones.stream().noneMatch(o -> o.knot == knot)) {
                    lie(s, k);
                    calm = woken(s) < now ? 0 : calm;
                    lie(s, lay);
                }
            }
        }
        return calm;
    }

    private int[] deepestBySet = null;
    private int leastOrder;
    private int leastDepth;

    public int order(int what) {
        if (what < 0 || what > 1) {
            return -2;
        }
        if (ones.isEmpty()) {
            return 0;
        }
        deepestBySet = new int[1 << ones.size()];
        for (int set = 1; set < deepestBySet.length; set++) {
            List<One> in = new ArrayList<>();
            for (int s = 0; s < ones.size(); s++) {
                if ((set >> s & 1) == 1) {
                    in.add(ones.get(s));
                }
            }
            for (int d : hanging(in)) {
                deepestBySet[set] = Math.max(deepestBySet[set], d);
            }
        }
        leastDepth = Integer.MAX_VALUE;
        tryOrders(0, 0, 0);
        return what == 0 ? leastOrder : leastDepth;
    }

    private void tryOrders(int set, int digits, int deepest) {
        if (set == deepestBySet.length - 1) {
            if (deepest < leastDepth) {
                leastDepth = deepest;
                leastOrder = digits;
            }
            return;
        }
        for (int s = 0; s < ones.size(); s++) {
            if ((set >> s & 1) == 0) {
                int with = set | 1 << s;
                tryOrders(with, 10 * digits + s + 1, Math.max(deepest, deepestBySet[with]));
            }
        }
    }

    public int mend(int what) {
        if (what < 0 || what > 1) {
            return -2;
        }
        int least = deepestNow();
        int best = -1;
        for (int a = 0; a < 20; a++) {
            for (int b = a + 1; b < 20; b++) {
                if (corded(a, b) == 0) {
                    cord(a, b, 1);
                    int then = deepestNow();
                    cord(a, b, 0);
                    if (then < least) {
                        least = then;
                        best = 100 * a + b;
                    }
                }
            }
        }
        return what == 0 ? best : least;
    }

    public int rim(int what) {
        if (what < 0 || what > 1) {
            return -2;
        }
        int least = deepestNow();
        int best = -1;
        for (int k = 0; k < 20; k++) {
            if (!ties[k]) {
                ties[k] = true;
                int then = deepestNow();
                ties[k] = false;
                if (then < least) {
                    least = then;
                    best = k;
                }
            }
        }
        return what == 0 ? best : least;
    }

    private boolean isSet(int bits) {
        return bits >= 0 && bits < 1 << ones.size();
    }

    public int turned(int woke, int what) {
        if (!isSet(woke)) {
            return -5;
        }
        if (what < 0 || what > 1) {
            return -7;
        }
        List<Integer> sets = new ArrayList<>();
        for (int set = 0; isSet(set); set++) {
            if ((wokenByAny(set) & ~set) == woke) {
                sets.add(set);
            }
        }
        return what == 0 ? sets.size() : sets.isEmpty() ? -1 : sets.get(0);
    }

    public int laws(int by, int woke) {
        if (!isOne(by)) {
            return -5;
        }
        if (!isSet(woke)) {
            return -7;
        }
        int was = law;
        int bits = 0;
        for (law = 0; law < texts.size(); law++) {
            bits |= wokenByAny(1 << by) == woke ? 1 << law : 0;
        }
        law = was;
        return bits;
    }

    private int firstOtherwise(int s) {
        int[] deep = hanging(ones);
        for (int k = 0; k < 20; k++) {
            if (sheets[s][k] != deep[k]) {
                return k;
            }
        }
        return -1;
    }

    public int judge(int s) {
        return s < 0 || s > 3 ? -2 : sorts[s] < 0 ? -11 : sheets[s].length != 20 ? -2 : firstOtherwise(s);
    }

    public int where(int s, int one) {
        if (judge(s) < -1) {
            return judge(s);
        }
        if (!isOne(one)) {
            return -5;
        }
        int lay = ones.get(one).knot;
        int bits = 0;
        for (int k = 0; k < 20; k++) {
            lie(one, k);
            bits |= judge(s) == -1 ? 1 << k : 0;
        }
        lie(one, lay);
        return bits;
    }

    public int film(int s) {
        if (s < 0 || s > 3) {
            return -2;
        }
        sorts[s] = 2;
        sheets[s] = hanging(ones);
        return 20;
    }

    private int turners(int seed) {
        java.math.BigInteger lot = java.math.BigInteger.valueOf(seed + 1);
        int bits = 0;
        for (int s = 0; s < ones.size(); s++) {
            lot = lot.multiply(java.math.BigInteger.valueOf(48271)).mod(java.math.BigInteger.valueOf(2147483647));
            bits |= lot.mod(java.math.BigInteger.valueOf(3)).signum() == 0 ? 1 << s : 0;
        }
        return bits;
    }

    public int drawn(int seed, int what) {
        if (seed < 0 || seed > 99999 || what < 0 || what > 1) {
            return -2;
        }
        int turning = turners(seed);
        return what == 0 ? turning : wokenByAny(turning) & ~turning;
    }

    public long odds(int seed, int seeds, int part) {
        if (seed < 0 || seed > 99999 || seeds < 1 || seeds > 30 || part < 0 || part > 1) {
            return -4611686018427387904L;
        }
        int calm = 0;
        for (int i = seed; i < seed + seeds; i++) {
            int turning = turners(i);
            calm += (wokenByAny(turning) & ~turning) == 0 ? 1 : 0;
        }
        int common = java.math.BigInteger.valueOf(calm).gcd(java.math.BigInteger.valueOf(seeds)).intValue();
        return part == 0 ? calm / common : seeds / common;
    }

    public int image() {
        boolean[][] copies = new boolean[20][];
        for (int k = 0; k < 20; k++) {
            copies[k] = cords[k].clone();
        }
        kept = new Kept(copies, ties.clone(), ones.stream().map(One::knot).toList(), law);
        return ones.size();
    }

    public int back() {
        if (kept == null) {
            return -3;
        }
        for (int k = 0; k < 20; k++) {
            cords[k] = kept.cords[k].clone();
        }
        ties = kept.ties.clone();
        law = kept.law;
        while (ones.size() > kept.knots.size()) {
            ones.remove(ones.size() - 1);
        }
        for (int s = 0; s < ones.size(); s++) {
            lie(s, kept.knots.get(s));
        }
        return ones.size();
    }

    public int sheet(int s, int sort, int n) {
        if (s < 0 || s > 3 || sort < -1 || sort > 2 || sort >= 0 && n > 40) {
            return -2;
        }
        if (sort >= 0 && n < 0) {
            return -14;
        }
        sorts[s] = sort;
        sheets[s] = sort < 0 ? null : new int[n];
        return 1;
    }

    public int cell(int s, int i, int v) {
        if (s < 0 || s > 3) {
            return -2;
        }
        if (sheets[s] == null) {
            return -11;
        }
        if (i < 0 || i >= sheets[s].length) {
            return -12;
        }
        sheets[s][i] = sorts[s] == 0 ? (byte) v : sorts[s] == 1 ? (short) v : v;
        return 1;
    }

    public int copy(int s, int i, int other, int j, int n) {
        if (s < 0 || s > 3 || other < 0 || other > 3) {
            return -2;
        }
        if (sheets[s] == null || sheets[other] == null) {
            return -11;
        }
        if (sorts[s] != sorts[other]) {
            return -13;
        }
        if (i < 0 || j < 0 || n < 0 || (long) i + n > sheets[s].length || (long) j + n > sheets[other].length) {
            return -12;
        }
        int[] from = sheets[s].clone();
        for (int m = 0; m < n; m++) {
            sheets[other][j + m] = from[i + m];
        }
        return n;
    }

    public int sleepersBy(int s, int sort, int at, int n) {
        if (s < 0 || s > 3 || sort < 0 || sort > 2 || n < 0 || n > 6) {
            return -2;
        }
        if (sheets[s] == null) {
            return -11;
        }
        if (sorts[s] != sort) {
            return -13;
        }
        int before = ones.size();
        for (long from = at; n > 0; n--, from += 3) {
            if (from < 0 || from + 2 >= sheets[s].length) {
                return -12;
            }
            int f = (int) from;
            sleeper(sheets[s][f], sheets[s][f + 1], sheets[s][f + 2]);
        }
        return ones.size() - before;
    }

    public int taken(int i, int kind) {
        if (kind < 0 || kind > 6) {
            return -2;
        }
        if (i < 0 || i > 25) {
            return -12;
        }
        if (i >= 20) {
            return !isOne(i - 20) ? -11 : kind < 6 && ones.get(i - 20).isA(kind) ? i - 20 : -13;
        }
        boolean any = false;
        for (boolean cord : cords[i]) {
            any |= cord;
        }
        return !any ? -11 : kind < 6 ? -13 : ties[i] ? 1 : 0;
    }
}
