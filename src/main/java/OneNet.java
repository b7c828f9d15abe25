import java.util.Arrays;

/** A net of twenty knots in which up to six sleepers lie; DOC.md tells what each call does. */
public final class OneNet {
    public static final int NONE = -1, BAD = -2, STATE = -3, FULL = -4;
    public static final long NO = -4611686018427387904L;

    private static final int NO_SUCH = -5, NOT_AS_TOLD = -7;
    private static final int NOTHING_THERE = -11, OUTSIDE = -12, OF_ANOTHER = -13, BELOW_0 = -14;
    private static final int FAULT = -100;

    private static final int KNOTS = 20, WIDTH = 5, FIRST_TIED = 1 | 1 << 4 | 1 << 15 | 1 << 19;
    private static final int SLEEPERS = 6, KINDS = 6, TEXTS = 6, SHEETS = 4;
    private static final int MOST_ROLLS = 20, MOST_SEEDS = 30, LAST_SEED = 99999;
    private static final long LOT_TIMES = 48271, LOT_MODULO = 2147483647;
    private static final int FELT = 0, SLOPE = 1, BEARS = 2, PARTS = 3;
    private static final int INTS = 2, SORTS = 3, MISSING = -1;
    private static final String FIRST_TEXT = "felt more * 4 + 8 - far * 3 ; slope 2 ; bears 60 ;";

    private final Tape tape = new Tape();
    private final Law[] texts = new Law[TEXTS];
    private int textCount = 1;
    private int lawNumber = 0;
    private final Crowd crowd;
    private final Net net;
    private final Sheet[] sheets = new Sheet[SHEETS];
    private final Image kept = new Image();

    public OneNet() {
        for (int i = 0; i < FIRST_TEXT.length(); i++) {
            tape.put(FIRST_TEXT.charAt(i));
        }
        tape.read();
        Law first = tape.lawRead();
        tape.clear();
        // The rows of texts and sheets never hold null, so that nobody need look for it.
        for (int t = 0; t < TEXTS; t++) {
            texts[t] = first;
        }
        for (int s = 0; s < SHEETS; s++) {
            sheets[s] = new Sheet();
        }
        crowd = new Crowd(first);
        net = crowd.net;
    }

    // ---- the net, the law

    public int cord(int a, int b, int is) {
        if (!Net.areBeside(a, b)) {
            return NO_SUCH;
        }
        if (!isBit(is)) {
            return NOT_AS_TOLD;
        }
        int was = net.hasCord(a, b) ? 1 : 0;
        net.putCord(a, b, is == 1);
        return was;
    }

    public int corded(int a, int b) {
        if (!Net.areBeside(a, b)) {
            return NO_SUCH;
        }
        return net.hasCord(a, b) ? 1 : 0;
    }

    public int tie(int k, int is) {
        if (!isKnot(k)) {
            return NO_SUCH;
        }
        if (!isBit(is)) {
            return NOT_AS_TOLD;
        }
        int was = net.tied >> k & 1;
        net.putTie(k, is == 1);
        return was;
    }

    public int count(int what) {
        switch (what) {
            case 0: return crowd.size;
            case 1: return net.cordCount();
            case 2: return net.tied;
            case 3: return textCount;
            case 4: return lawNumber;
            case 5: return tape.size;
            default: return BAD;
        }
    }

    public int feed(int n, int a, int b, int c, int d, int e) {
        if (n < 1 || n > 5 || !isByte(a) || !isByte(b) || !isByte(c) || !isByte(d) || !isByte(e)) {
            return BAD;
        }
        if (n > tape.room()) {
            return FULL;
        }
        for (int i = 0; i < n; i++) {
            tape.put(i == 0 ? a : i == 1 ? b : i == 2 ? c : i == 3 ? d : e);
        }
        return tape.size;
    }

    public int text() {
        if (textCount >= TEXTS) {
            return FULL;
        }
        int fault = tape.read();
        if (fault >= 0) {
            tape.clear();
            return FAULT - fault;
        }
        texts[textCount] = tape.lawRead();
        tape.clear();
        textCount++;
        return textCount - 1;
    }

    public int force(int t) {
        if (t < 0 || t >= textCount) {
            return BAD;
        }
        int was = lawNumber;
        obey(t);
        return was;
    }

    public int asks(int part, int toldMore, int far, int weight, int knotWho) {
        if (!isIn(part, 0, PARTS - 1) || !isIn(toldMore, 0, 999) || !isIn(far, 0, KNOTS)
                || !isIn(weight, 0, 999) || !isIn(knotWho, 0, 10 * KNOTS - 1)) {
            return BAD;
        }
        crowd.nameTurner(toldMore / 10, toldMore % 10, far);
        crowd.namePlace(weight, knotWho / 10, knotWho % 10);
        return crowd.law.says(part, crowd.names);
    }

    // ---- sleepers

    public int sleeper(int kind, int toldMore, int knot) {
        if (!isIn(kind, 0, KINDS - 1) || !isIn(toldMore, 10, 309) || !isKnot(knot)) {
            return BAD;
        }
        if (crowd.size >= SLEEPERS) {
            return FULL;
        }
        return crowd.letIn(kind, toldMore / 10, toldMore % 10, knot);
    }

    public int lie(int s, int knot) {
        if (!crowd.has(s)) {
            return NO_SUCH;
        }
        if (!isKnot(knot)) {
            return NOT_AS_TOLD;
        }
        int was = crowd.lies[s];
        crowd.lies[s] = knot;
        return was;
    }

    public int told(int s, int what) {
        if (!crowd.has(s)) {
            return NO_SUCH;
        }
        Sleeper one = crowd.all[s];
        switch (what) {
            case 0: return crowd.lies[s];
            case 1: return one.kind;
            case 2: return one.told;
            case 3: return one.more;
            case 4: return one.weight;
            case 5: return one.wakesAt;
            default: return NOT_AS_TOLD;
        }
    }

    // ---- how it hangs

    public int depth(int k) {
        if (!isKnot(k)) {
            return NO_SUCH;
        }
        crowd.settle();
        return net.deep[k];
    }

    public int pull(int a, int b) {
        if (!Net.areBeside(a, b)) {
            return NO_SUCH;
        }
        crowd.settle();
        return net.pullOf(a, b);
    }

    public int hang(int what) {
        if (!isIn(what, 0, 3)) {
            return BAD;
        }
        crowd.settle();
        switch (what) {
            case 0: return net.deep[net.deepest()];
            case 1: return net.deepest();
            case 2: return crowd.tearing();
            default: return net.deepTogether();
        }
    }

    // ---- rolling

    public int roll(int n) {
        if (!isIn(n, 0, MOST_ROLLS)) {
            return BAD;
        }
        return crowd.rollAll(n);
    }

    public int rolled(int s, int n) {
        if (!crowd.has(s)) {
            return NO_SUCH;
        }
        if (!isIn(n, 0, MOST_ROLLS)) {
            return NOT_AS_TOLD;
        }
        crowd.mark();
        crowd.rollAll(n);
        int then = crowd.lies[s];
        crowd.goBack();
        return then;
    }

    // ---- turns

    public int felt(int s, int by) {
        if (!crowd.has(s) || !crowd.has(by) || s == by) {
            return NO_SUCH;
        }
        return crowd.feels(s, by);
    }

    public int wakes(int by, int what) {
        if (!crowd.has(by)) {
            return NO_SUCH;
        }
        if (!isIn(what, 0, 2)) {
            return NOT_AS_TOLD;
        }
        if (what == 0) {
            return crowd.wakers(by);
        }
        crowd.noteWakers();
        int all = 1 << by;
        int turning = all;
        int rounds = 0;
        for (int round = 0; round < SLEEPERS && turning != 0; round++) {
            turning = crowd.wakersOfAny(turning) & ~all;
            all |= turning;
            rounds += turning != 0 ? 1 : 0;
        }
        return what == 1 ? all & ~(1 << by) : rounds;
    }

    public int night() {
        return crowd.unrest();
    }

    public int woken(int s) {
        if (!crowd.has(s)) {
            return NO_SUCH;
        }
        return crowd.wokenBy(s);
    }

    // ---- where to lie

    public int place(int s, int what) {
        if (!crowd.has(s)) {
            return NO_SUCH;
        }
        if (!isBit(what)) {
            return NOT_AS_TOLD;
        }
        int lay = crowd.lies[s];
        int best = NONE;
        int least = 0;
        for (int k = 0; k < KNOTS; k++) {
            crowd.lies[s] = k;
            int then = crowd.unrest();
            if (best == NONE || then < least) {
                least = then;
                best = k;
            }
        }
        crowd.lies[s] = lay;
        return what == 0 ? best : least;
    }

    public int swap(int what) {
        if (!isBit(what)) {
            return BAD;
        }
        int best = NONE;
        int least = crowd.unrest();
        for (int a = 0; a < crowd.size; a++) {
            for (int b = a + 1; b < crowd.size; b++) {
                crowd.changePlaces(a, b);
                int then = crowd.unrest();
                crowd.changePlaces(a, b);
                if (then < least) {
                    least = then;
                    best = 10 * a + b;
                }
            }
        }
        return what == 0 ? best : least;
    }

    public int rest() {
        for (int s = 0; s < crowd.size; s++) {
            if (crowd.wouldSleepBetter(s)) {
                return 0;
            }
        }
        return 1;
    }

    // ---- getting in, mending

    public int order(int what) {
        if (!isBit(what)) {
            return BAD;
        }
        if (crowd.size == 0) {
            return 0;
        }
        // One more in the net makes no knot less deep in any round: so the net is deepest with all in
        // it, whatever the order was, all orders are alike, and the first is that by numbers.
        if (what == 1) {
            return crowd.deepestNow();
        }
        int digits = 0;
        for (int s = 0; s < crowd.size; s++) {
            digits = 10 * digits + s + 1;
        }
        return digits;
    }

    public int mend(int what) {
        if (!isBit(what)) {
            return BAD;
        }
        int best = NONE;
        int least = crowd.deepestNow();
        for (int a = 0; a < KNOTS; a++) {
            for (int b = a + 1; b <= a + WIDTH; b++) {
                if (!Net.areBeside(a, b) || net.hasCord(a, b)) {
                    continue;
                }
                net.putCord(a, b, true);
                int then = crowd.deepestNow();
                net.putCord(a, b, false);
                if (then < least) {
                    least = then;
                    best = 100 * a + b;
                }
            }
        }
        return what == 0 ? best : least;
    }

    public int rim(int what) {
        if (!isBit(what)) {
            return BAD;
        }
        int best = NONE;
        int least = crowd.deepestNow();
        for (int k = 0; k < KNOTS; k++) {
            if ((net.tied >> k & 1) == 1) {
                continue;
            }
            net.putTie(k, true);
            int then = crowd.deepestNow();
            net.putTie(k, false);
            if (then < least) {
                least = then;
                best = k;
            }
        }
        return what == 0 ? best : least;
    }

    // ---- who turned

    public int turned(int woke, int what) {
        if (!crowd.hasAll(woke)) {
            return NO_SUCH;
        }
        if (!isBit(what)) {
            return NOT_AS_TOLD;
        }
        crowd.noteWakers();
        int found = 0;
        int first = NONE;
        for (int set = 0; set < 1 << crowd.size; set++) {
            if ((crowd.wakersOfAny(set) & ~set) == woke) {
                found++;
                first = first == NONE ? set : first;
            }
        }
        return what == 0 ? found : first;
    }

    public int laws(int by, int woke) {
        if (!crowd.has(by)) {
            return NO_SUCH;
        }
        if (!crowd.hasAll(woke)) {
            return NOT_AS_TOLD;
        }
        int was = lawNumber;
        int found = 0;
        for (int t = 0; t < textCount; t++) {
            obey(t);
            if (crowd.wakers(by) == woke) {
                found |= 1 << t;
            }
        }
        obey(was);
        return found;
    }

    // ---- told depths

    public int judge(int s) {
        int refusal = refusalOfDepths(s);
        if (refusal != 0) {
            return refusal;
        }
        return firstOtherwise(sheets[s]);
    }

    public int where(int s, int one) {
        int refusal = refusalOfDepths(s);
        if (refusal != 0) {
            return refusal;
        }
        if (!crowd.has(one)) {
            return NO_SUCH;
        }
        int lay = crowd.lies[one];
        int found = 0;
        for (int k = 0; k < KNOTS; k++) {
            crowd.lies[one] = k;
            if (firstOtherwise(sheets[s]) == NONE) {
                found |= 1 << k;
            }
        }
        crowd.lies[one] = lay;
        return found;
    }

    public int film(int s) {
        if (!isSheet(s)) {
            return BAD;
        }
        crowd.settle();
        sheets[s].become(INTS, KNOTS);
        for (int k = 0; k < KNOTS; k++) {
            sheets[s].put(k, net.deep[k]);
        }
        return KNOTS;
    }

    // ---- nights by lot

    public int drawn(int seed, int what) {
        if (!isIn(seed, 0, LAST_SEED) || !isBit(what)) {
            return BAD;
        }
        int turning = turningBy(seed);
        if (what == 0) {
            return turning;
        }
        crowd.noteWakers();
        return crowd.wakersOfAny(turning) & ~turning;
    }

    public long odds(int seed, int seeds, int part) {
        if (!isIn(seed, 0, LAST_SEED) || !isIn(seeds, 1, MOST_SEEDS) || !isBit(part)) {
            return NO;
        }
        crowd.noteWakers();
        int calm = 0;
        for (int i = 0; i < seeds; i++) {
            int turning = turningBy(seed + i);
            if ((crowd.wakersOfAny(turning) & ~turning) == 0) {
                calm++;
            }
        }
        int divisor = seeds;
        while (divisor > 1 && (calm % divisor != 0 || seeds % divisor != 0)) {
            divisor--;
        }
        return part == 0 ? calm / divisor : seeds / divisor;
    }

    public int image() {
        kept.take(net, crowd, lawNumber);
        return crowd.size;
    }

    public int back() {
        if (!kept.taken) {
            return STATE;
        }
        kept.giveBack(net, crowd);
        obey(kept.lawNumber);
        return crowd.size;
    }

    // ---- the host

    public int sheet(int s, int sort, int n) {
        if (!isSheet(s) || !isIn(sort, MISSING, SORTS - 1)) {
            return BAD;
        }
        if (sort == MISSING) {
            sheets[s].become(MISSING, 0);
            return 1;
        }
        if (n > Sheet.MOST) {
            return BAD;
        }
        if (n < 0) {
            return BELOW_0;
        }
        sheets[s].become(sort, n);
        return 1;
    }

    public int cell(int s, int i, int v) {
        if (!isSheet(s)) {
            return BAD;
        }
        if (sheets[s].sort == MISSING) {
            return NOTHING_THERE;
        }
        if (!sheets[s].has(i)) {
            return OUTSIDE;
        }
        sheets[s].put(i, v);
        return 1;
    }

    public int copy(int s, int i, int other, int j, int n) {
        if (!isSheet(s) || !isSheet(other)) {
            return BAD;
        }
        Sheet from = sheets[s];
        Sheet to = sheets[other];
        if (from.sort == MISSING || to.sort == MISSING) {
            return NOTHING_THERE;
        }
        if (from.sort != to.sort) {
            return OF_ANOTHER;
        }
        if (!from.hasRun(i, n) || !to.hasRun(j, n)) {
            return OUTSIDE;
        }
        System.arraycopy(from.cells, i, to.cells, j, n);
        return n;
    }

    public int sleepersBy(int s, int sort, int at, int n) {
        if (!isSheet(s) || !isIn(sort, 0, SORTS - 1) || !isIn(n, 0, SLEEPERS)) {
            return BAD;
        }
        Sheet by = sheets[s];
        if (by.sort == MISSING) {
            return NOTHING_THERE;
        }
        if (by.sort != sort) {
            return OF_ANOTHER;
        }
        int came = 0;
        for (int i = 0; i < n; i++) {
            int from = at + 3 * i;
            if (!by.hasRun(from, 3)) {
                return OUTSIDE;
            }
            if (sleeper(by.cells[from], by.cells[from + 1], by.cells[from + 2]) >= 0) {
                came++;
            }
        }
        return came;
    }

    public int taken(int i, int kind) {
        if (!isIn(kind, 0, KINDS)) {
            return BAD;
        }
        if (!isIn(i, 0, KNOTS + SLEEPERS - 1)) {
            return OUTSIDE;
        }
        if (i < KNOTS) {
            if (net.cords[i] == 0) {
                return NOTHING_THERE;
            }
            return kind == KINDS ? net.tied >> i & 1 : OF_ANOTHER;
        }
        int s = i - KNOTS;
        if (!crowd.has(s)) {
            return NOTHING_THERE;
        }
        return kind < KINDS && crowd.all[s].isA(kind) ? s : OF_ANOTHER;
    }

    // ---- what several calls share

    private static boolean isIn(int v, int least, int most) {
        return v >= least && v <= most;
    }

    private static boolean isBit(int v) {
        return v == 0 || v == 1;
    }

    private static boolean isByte(int v) {
        return isIn(v, 0, 255);
    }

    private static boolean isKnot(int k) {
        return k >= 0 && k < KNOTS;
    }

    private static boolean isSheet(int s) {
        return isIn(s, 0, SHEETS - 1);
    }

    private void obey(int t) {
        lawNumber = t;
        crowd.law = texts[t];
    }

    /** Why a sheet can't tell how deep each knot is; 0, if it can. */
    private int refusalOfDepths(int s) {
        if (!isSheet(s)) {
            return BAD;
        }
        if (sheets[s].sort == MISSING) {
            return NOTHING_THERE;
        }
        return sheets[s].size != KNOTS ? BAD : 0;
    }

    private int firstOtherwise(Sheet depths) {
        crowd.settle();
        for (int k = 0; k < KNOTS; k++) {
            if (depths.cells[k] != net.deep[k]) {
                return k;
            }
        }
        return NONE;
    }

    private int turningBy(int seed) {
        long lot = seed + 1L;
        int turning = 0;
        for (int s = 0; s < crowd.size; s++) {
            lot = lot * LOT_TIMES % LOT_MODULO;
            if (lot % 3 == 0) {
                turning |= 1 << s;
            }
        }
        return turning;
    }

    /** Cords, what is tied, and how deep all hangs by the weights put on it. */
    private static final class Net {
        private static final int ROUNDS = 12, BOTTOM = 999, DIRECTIONS = 4;
        // By rising number, so that of like knots the first is met first.
        private static final int[] STEPS = {-WIDTH, -1, 1, WIDTH};

        /** By knot, the knots (bits) to which it has a cord. */
        final int[] cords = new int[KNOTS];
        int tied = FIRST_TIED;
        final int[] loads = new int[KNOTS];
        int[] deep = new int[KNOTS];
        private int[] ahead = new int[KNOTS];
        private final int[] far = new int[KNOTS * KNOTS];
        private boolean farIsKnown = false;

        Net() {
            for (int a = 0; a < KNOTS; a++) {
                for (int b = a + 1; b <= a + WIDTH; b++) {
                    if (areBeside(a, b)) {
                        putCord(a, b, true);
                    }
                }
            }
        }

        static boolean areBeside(int a, int b) {
            if (!isKnot(a) || !isKnot(b)) {
                return false;
            }
            int apart = Math.abs(a - b);
            return apart == WIDTH || apart == 1 && a / WIDTH == b / WIDTH;
        }

        boolean hasCord(int a, int b) {
            return a >= 0 && a < KNOTS && b >= 0 && b < KNOTS && (cords[a] >> b & 1) == 1;
        }

        void putCord(int a, int b, boolean is) {
            if (is) {
                cords[a] |= 1 << b;
                cords[b] |= 1 << a;
            } else {
                cords[a] &= ~(1 << b);
                cords[b] &= ~(1 << a);
            }
            farIsKnown = false;
        }

        void putTie(int k, boolean is) {
            tied = is ? tied | 1 << k : tied & ~(1 << k);
        }

        int cordCount() {
            int ends = 0;
            for (int k = 0; k < KNOTS; k++) {
                ends += Integer.bitCount(cords[k]);
            }
            return ends / 2;
        }

        void setCords(int[] as) {
            System.arraycopy(as, 0, cords, 0, KNOTS);
            farIsKnown = false;
        }

        void settle() {
            Arrays.fill(deep, 0);
            for (int round = 0; round < ROUNDS; round++) {
                int[] older = ahead;
                ahead = deep;
                deep = older;
                for (int k = 0; k < KNOTS; k++) {
                    deep[k] = deepNext(k);
                }
            }
        }

        private int deepNext(int k) {
            if ((tied >> k & 1) == 1) {
                return 0;
            }
            int together = loads[k];
            int ends = 0;
            for (int d = 0; d < DIRECTIONS; d++) {
                int other = k + STEPS[d];
                if (hasCord(k, other)) {
                    together += ahead[other];
                    ends++;
                }
            }
            return ends == 0 ? BOTTOM : Math.min(BOTTOM, together / ends);
        }

        int deepest() {
            int best = 0;
            for (int k = 1; k < KNOTS; k++) {
                if (deep[k] > deep[best]) {
                    best = k;
                }
            }
            return best;
        }

        int deepTogether() {
            int together = 0;
            for (int k = 0; k < KNOTS; k++) {
                together += deep[k];
            }
            return together;
        }

        int pullOf(int a, int b) {
            return hasCord(a, b) ? Math.abs(deep[a] - deep[b]) : 0;
        }

        /** The deepest knot to which one has a cord; NONE, if it has no cord. */
        int deepestFrom(int k) {
            int best = NONE;
            for (int d = 0; d < DIRECTIONS; d++) {
                int other = k + STEPS[d];
                if (hasCord(k, other) && (best == NONE || deep[other] > deep[best])) {
                    best = other;
                }
            }
            return best;
        }

        /** The fewest cords between two knots; NONE, if there is no way. */
        int farBetween(int a, int b) {
            if (!farIsKnown) {
                Arrays.fill(far, NONE);
                for (int k = 0; k < KNOTS; k++) {
                    measureFrom(k);
                }
                farIsKnown = true;
            }
            return far[a * KNOTS + b];
        }

        private void measureFrom(int a) {
            int reached = 1 << a;
            int edge = reached;
            for (int steps = 0; steps < KNOTS && edge != 0; steps++) {
                int next = 0;
                for (int b = 0; b < KNOTS; b++) {
                    if ((edge >> b & 1) == 1) {
                        far[a * KNOTS + b] = steps;
                        next |= cords[b];
                    }
                }
                edge = next & ~reached;
                reached |= next;
            }
        }
    }

    /** One who sleeps, of a kind. */
    private static final class Sleeper {
        private static final int HEAVY = 1, THIN = 2, BROTHERS = 3, SNORER = 4, LOVER = 5;
        private static final int WAKES_AT = 10;
        /** By kind, the kinds (bits) that it is: itself and those above it. */
        private static final int[] IS = {1, 1 | 1 << 1, 1 | 1 << 2, 1 | 1 << 1 | 1 << 3, 1 | 1 << 2 | 1 << 4, 1 | 1 << 5};

        int kind = 0;
        int told = 0;
        int more = 0;
        int weight = 0;
        int wakesAt = 0;

        void become(int newKind, int newTold, int newMore) {
            kind = newKind;
            told = newTold;
            more = newMore;
            weight = weighs();
            wakesAt = leastFelt();
        }

        boolean isA(int other) {
            return isIn(kind, 0, KINDS - 1) && isIn(other, 0, KINDS - 1) && (IS[kind] >> other & 1) == 1;
        }

        private int weighs() {
            int single = isA(HEAVY) ? told + 4 * more : told;
            return isA(BROTHERS) ? 2 * single : single;
        }

        private int leastFelt() {
            if (isA(LOVER)) {
                return WAKES_AT / 2;
            }
            int at = isA(THIN) ? Math.max(1, WAKES_AT - more) : WAKES_AT;
            return isA(SNORER) ? at + 5 : at;
        }

        int turns(int says) {
            switch (kind) {
                case BROTHERS: return says + more;
                case SNORER: return 2 * says;
                case LOVER: return Math.max(0, says - 2 * more);
                default: return says;
            }
        }
    }

    /** Who sleeps in the net and where, by a law. */
    private static final class Crowd {
        final Net net = new Net();
        Law law;
        final Sleeper[] all = new Sleeper[SLEEPERS];
        final int[] lies = new int[SLEEPERS];
        int size = 0;
        private final int[] marked = new int[SLEEPERS];
        private final int[] goes = new int[SLEEPERS];
        private final int[] wakersBy = new int[SLEEPERS];
        final int[] names = new int[Law.NAMES];

        Crowd(Law law) {
            this.law = law;
            for (int s = 0; s < SLEEPERS; s++) {
                all[s] = new Sleeper();
            }
        }

        boolean has(int s) {
            return s >= 0 && s < size;
        }

        boolean hasAll(int bits) {
            return bits >= 0 && bits < 1 << size;
        }

        int letIn(int kind, int told, int more, int knot) {
            all[size].become(kind, told, more);
            lies[size] = knot;
            size++;
            return size - 1;
        }

        void mark() {
            System.arraycopy(lies, 0, marked, 0, SLEEPERS);
        }

        void goBack() {
            System.arraycopy(marked, 0, lies, 0, SLEEPERS);
        }

        void changePlaces(int a, int b) {
            int knot = lies[a];
            lies[a] = lies[b];
            lies[b] = knot;
        }

        void nameTurner(int told, int more, int far) {
            names[Law.TOLD] = told;
            names[Law.MORE] = more;
            names[Law.FAR] = far;
        }

        void namePlace(int weight, int knot, int who) {
            names[Law.WEIGHT] = weight;
            names[Law.KNOT] = knot;
            names[Law.WHO] = who;
        }

        void settle() {
            Arrays.fill(net.loads, 0);
            for (int s = 0; s < size; s++) {
                net.loads[lies[s]] += all[s].weight;
            }
            net.settle();
        }

        int deepestNow() {
            settle();
            return net.deep[net.deepest()];
        }

        /** How many cords would tear, when all is settled. */
        int tearing() {
            int found = 0;
            for (int a = 0; a < KNOTS; a++) {
                for (int b = a + 1; b <= a + WIDTH; b++) {
                    if (net.hasCord(a, b) && net.pullOf(a, b) > bears(a, b)) {
                        found++;
                    }
                }
            }
            return found;
        }

        private int bears(int lesser, int other) {
            nameTurner(0, 0, 0);
            namePlace(net.loads[lesser] + net.loads[other], lesser, 0);
            return law.says(BEARS, names);
        }

        int rollAll(int times) {
            int went = 0;
            for (int i = 0; i < times; i++) {
                if (rollOnce()) {
                    went++;
                }
            }
            return went;
        }

        private boolean rollOnce() {
            settle();
            for (int s = 0; s < size; s++) {
                goes[s] = rollsTo(s);
            }
            boolean anybody = false;
            for (int s = 0; s < size; s++) {
                anybody = anybody || goes[s] != lies[s];
                lies[s] = goes[s];
            }
            return anybody;
        }

        private int rollsTo(int s) {
            int own = lies[s];
            int to = net.deepestFrom(own);
            if (to == NONE) {
                return own;
            }
            nameTurner(all[s].told, all[s].more, 0);
            namePlace(all[s].weight, own, s);
            return net.deep[to] - net.deep[own] > law.says(SLOPE, names) ? to : own;
        }

        int feels(int s, int by) {
            int far = net.farBetween(lies[s], lies[by]);
            if (far == NONE) {
                return 0;
            }
            nameTurner(all[by].told, all[by].more, far);
            namePlace(all[s].weight, lies[s], s);
            return Math.max(0, all[by].turns(law.says(FELT, names)));
        }

        private boolean wakesBy(int s, int by) {
            return s != by && feels(s, by) >= all[s].wakesAt;
        }

        int wakers(int by) {
            int bits = 0;
            for (int s = 0; s < size; s++) {
                if (wakesBy(s, by)) {
                    bits |= 1 << s;
                }
            }
            return bits;
        }

        int wokenBy(int s) {
            int turns = 0;
            for (int by = 0; by < size; by++) {
                if (wakesBy(s, by)) {
                    turns++;
                }
            }
            return turns;
        }

        int unrest() {
            int together = 0;
            for (int by = 0; by < size; by++) {
                together += Integer.bitCount(wakers(by));
            }
            return together;
        }

        /** Ahead of wakersOfAny(), which may be asked often. */
        void noteWakers() {
            for (int by = 0; by < size; by++) {
                wakersBy[by] = wakers(by);
            }
        }

        int wakersOfAny(int turning) {
            int bits = 0;
            for (int by = 0; by < size; by++) {
                if ((turning >> by & 1) == 1) {
                    bits |= wakersBy[by];
                }
            }
            return bits;
        }

        boolean wouldSleepBetter(int s) {
            int occupied = 0;
            for (int other = 0; other < size; other++) {
                occupied |= 1 << lies[other];
            }
            int lay = lies[s];
            int now = wokenBy(s);
            boolean better = false;
            for (int k = 0; k < KNOTS && !better; k++) {
                if ((occupied >> k & 1) == 0) {
                    lies[s] = k;
                    better = wokenBy(s) < now;
                }
            }
            lies[s] = lay;
            return better;
        }
    }

    /** A text that was read, as a row of steps: numbers from 0 on, names below 0, signs farther below. */
    private static final class Law {
        static final int TOLD = 0, MORE = 1, FAR = 2, WEIGHT = 3, KNOT = 4, WHO = 5, NAMES = 6;

        private final int[] steps;
        private final int[] ends;
        private final int[] stack;

        /** Of each part the steps end where the next part's begin. */
        Law(int[] steps, int[] ends) {
            this.steps = steps;
            this.ends = ends;
            stack = new int[steps.length + 1];
        }

        static int stepOfName(int name) {
            return -1 - name;
        }

        static int stepOfSign(int sign) {
            return -NAMES - sign;
        }

        int says(int part, int[] names) {
            int top = 0;
            stack[0] = 0;
            for (int i = part == 0 ? 0 : ends[part - 1]; i < ends[part]; i++) {
                int step = steps[i];
                if (step >= -NAMES && top < stack.length) {
                    stack[top] = step >= 0 ? step : names[-1 - step];
                    top++;
                } else if (isAlone(-NAMES - step) && top >= 1) {
                    stack[top - 1] = alone(-NAMES - step, stack[top - 1]);
                } else if (top >= 2) {
                    top--;
                    stack[top - 1] = joined(-NAMES - step, stack[top - 1], stack[top]);
                }
            }
            return Math.max(0, Math.min(part == BEARS ? 999 : 99, stack[0]));
        }

        private static boolean isAlone(int sign) {
            return sign == Tape.NOT || sign == Tape.MINUS;
        }

        private static int alone(int sign, int v) {
            if (sign == Tape.MINUS) {
                return -v;
            }
            return v == 0 ? 1 : 0;
        }

        private static int joined(int sign, int a, int b) {
            switch (sign) {
                case '+': return a + b;
                case '-': return a - b;
                case '*': return a * b;
                case '<': return a < b ? 1 : 0;
                case '=': return a == b ? 1 : 0;
                case Tape.AND: return a != 0 && b != 0 ? 1 : 0;
                default: return a != 0 || b != 0 ? 1 : 0;
            }
        }
    }

    /** The tape, and how a text is read from it. */
    private static final class Tape {
        // Tokens: a sign is its byte; a word is its number in word(), above all bytes.
        static final int WORD = 256, FELT_KEY = WORD + 6, SLOPE_KEY = WORD + 7, BEARS_KEY = WORD + 8;
        static final int OR = WORD + 9, AND = WORD + 10, NOT = WORD + 11;
        static final int NUMBER = 300, END = 301, WRONG = 302, MINUS = 303;
        private static final int MOST = 160, WORDS = 12, MOST_DIGITS = 4, MOST_OPEN = 5;

        private final int[] bytes = new int[MOST];
        int size = 0;
        private final int[] steps = new int[MOST];
        private int stepCount = 0;
        private final int[] ends = new int[PARTS];
        private int token;
        private int start;
        private int behind;
        private int number;
        private int open;
        private int fault;

        int room() {
            return MOST - size;
        }

        void put(int b) {
            if (size < MOST) {
                bytes[size] = b;
                size++;
            }
        }

        void clear() {
            size = 0;
        }

        /** The text that read() found without a fault. */
        Law lawRead() {
            return new Law(Arrays.copyOf(steps, stepCount), Arrays.copyOf(ends, PARTS));
        }

        /** The place of the fault; NONE, if the tape is a text. */
        int read() {
            stepCount = 0;
            behind = 0;
            open = 0;
            fault = NONE;
            advance();
            for (int part = 0; part < PARTS; part++) {
                expect(part == FELT ? FELT_KEY : part == SLOPE ? SLOPE_KEY : BEARS_KEY);
                readOr();
                expect(';');
                ends[part] = stepCount;
            }
            if (token != END) {
                refuse();
            }
            return fault;
        }

        // Behind a fault no token matches any more, so that all reading ends by itself.
        private void refuse() {
            if (fault == NONE) {
                fault = start;
            }
            token = WRONG;
        }

        private void expect(int due) {
            if (token == due) {
                advance();
            } else {
                refuse();
            }
        }

        private void enter() {
            if (open < MOST_OPEN) {
                open++;
                advance();
            } else {
                refuse();
            }
        }

        private void emit(int step) {
            if (stepCount < MOST) {
                steps[stepCount] = step;
                stepCount++;
            }
        }

        private void readOr() {
            readAnd();
            for (int i = 0; i < MOST && token == OR; i++) {
                advance();
                readAnd();
                emit(Law.stepOfSign(OR));
            }
        }

        private void readAnd() {
            readNot();
            for (int i = 0; i < MOST && token == AND; i++) {
                advance();
                readNot();
                emit(Law.stepOfSign(AND));
            }
        }

        private void readNot() {
            if (token == NOT) {
                enter();
                readNot();
                open--;
                emit(Law.stepOfSign(NOT));
                return;
            }
            readSum();
            int sign = token;
            if (sign == '<' || sign == '=') {
                advance();
                readSum();
                emit(Law.stepOfSign(sign));
            }
        }

        private void readSum() {
            readTerm();
            for (int i = 0; i < MOST && (token == '+' || token == '-'); i++) {
                int sign = token;
                advance();
                readTerm();
                emit(Law.stepOfSign(sign));
            }
        }

        private void readTerm() {
            readOne();
            for (int i = 0; i < MOST && token == '*'; i++) {
                advance();
                readOne();
                emit(Law.stepOfSign('*'));
            }
        }

        private void readOne() {
            if (token == NUMBER) {
                emit(number);
                advance();
            } else if (token >= WORD && token < WORD + Law.NAMES) {
                emit(Law.stepOfName(token - WORD));
                advance();
            } else if (token == '-') {
                enter();
                readOne();
                open--;
                emit(Law.stepOfSign(MINUS));
            } else if (token == '(') {
                enter();
                readOr();
                expect(')');
                open--;
            } else {
                refuse();
            }
        }

        private void advance() {
            while (behind < size && (bytes[behind] == ' ' || bytes[behind] == '\n')) {
                behind++;
            }
            start = behind;
            if (behind >= size) {
                token = END;
                return;
            }
            int first = bytes[behind];
            if (isLetter(first)) {
                token = wordToken();
            } else if (isDigit(first)) {
                token = numberToken();
            } else {
                behind++;
                token = isSign(first) ? first : WRONG;
            }
        }

        private int wordToken() {
            while (behind < size && isLetter(bytes[behind])) {
                behind++;
            }
            for (int w = 0; w < WORDS; w++) {
                if (tokenIs(word(w))) {
                    return WORD + w;
                }
            }
            return WRONG;
        }

        private int numberToken() {
            number = 0;
            while (behind < size && isDigit(bytes[behind])) {
                number = 10 * number + bytes[behind] - '0';
                behind++;
            }
            return behind - start > MOST_DIGITS ? WRONG : NUMBER;
        }

        private boolean tokenIs(String word) {
            if (word.length() != behind - start) {
                return false;
            }
            for (int i = 0; i < word.length(); i++) {
                if (word.charAt(i) != bytes[start + i]) {
                    return false;
                }
            }
            return true;
        }

        private static String word(int w) {
            switch (w) {
                case Law.TOLD: return "told";
                case Law.MORE: return "more";
                case Law.FAR: return "far";
                case Law.WEIGHT: return "weight";
                case Law.KNOT: return "knot";
                case Law.WHO: return "who";
                case FELT_KEY - WORD: return "felt";
                case SLOPE_KEY - WORD: return "slope";
                case BEARS_KEY - WORD: return "bears";
                case OR - WORD: return "or";
                case AND - WORD: return "and";
                default: return "not";
            }
        }

        private static boolean isLetter(int b) {
            return b >= 'a' && b <= 'z';
        }

        private static boolean isDigit(int b) {
            return b >= '0' && b <= '9';
        }

        private static boolean isSign(int b) {
            return "();+-*<=".indexOf((char) b) >= 0;
        }
    }

    /** A row of numbers of a sort, or missing. */
    private static final class Sheet {
        static final int MOST = 40;
        private static final int BYTES = 0, SHORTS = 1;

        int sort = MISSING;
        int size = 0;
        final int[] cells = new int[MOST];

        void become(int newSort, int newSize) {
            sort = newSort;
            size = newSize;
            Arrays.fill(cells, 0);
        }

        boolean has(int i) {
            return i >= 0 && i < size;
        }

        boolean hasRun(int i, int n) {
            return i >= 0 && n >= 0 && i <= size && n <= size - i;
        }

        void put(int i, int v) {
            cells[i] = sort == BYTES ? (byte) v : sort == SHORTS ? (short) v : v;
        }
    }

    /** What back() brings again. */
    private static final class Image {
        boolean taken = false;
        int lawNumber = 0;
        private final int[] cords = new int[KNOTS];
        private int tied = 0;
        private final int[] lies = new int[SLEEPERS];
        private int size = 0;

        void take(Net net, Crowd crowd, int law) {
            taken = true;
            lawNumber = law;
            System.arraycopy(net.cords, 0, cords, 0, KNOTS);
            tied = net.tied;
            System.arraycopy(crowd.lies, 0, lies, 0, SLEEPERS);
            size = crowd.size;
        }

        void giveBack(Net net, Crowd crowd) {
            net.setCords(cords);
            net.tied = tied;
            System.arraycopy(lies, 0, crowd.lies, 0, SLEEPERS);
            crowd.size = size;
        }
    }
}
