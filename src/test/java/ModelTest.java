import java.lang.reflect.Method;
import java.util.ArrayList;
import java.util.List;
import java.util.Random;

/** All promises: random runs of calls, held against the Model. */
public final class ModelTest {
    private static final int RUNS = 400;
    /** What an object is used for. */
    private static final int CALLS = 512;
    private static final int[] FARTHEST = {Integer.MIN_VALUE, Integer.MIN_VALUE + 1, -1000, -100, -16, -1, 20, 40, 41,
        100, 255, 256, 1000, 65535, 65536, 100000, Integer.MAX_VALUE - 2, Integer.MAX_VALUE - 1, Integer.MAX_VALUE};
    private static final Due DUE = new Due("ModelTest");

    private final Random random;
    private final OneNet net = new OneNet();
    private final Model model = new Model();
    private int made = 0;

    /** One number of so many is anything. */
    private final int wild;

    private ModelTest(long seed) {
        random = new Random(seed);
        wild = seed % 4 == 0 ? 3 : 25;
    }

    public static void main(String[] args) throws ReflectiveOperationException {
        List<Method[]> pairs = new ArrayList<>();
        for (Method method : OneNet.class.getDeclaredMethods()) {
            if (java.lang.reflect.Modifier.isPublic(method.getModifiers())) {
                Method twin = Model.class.getDeclaredMethod(method.getName(), method.getParameterTypes());
                twin.setAccessible(true);
                pairs.add(new Method[] {method, twin});
            }
        }
        pairs.sort((a, b) -> a[0].getName().compareTo(b[0].getName()));
        DUE.is("the methods, one for each promise but the first", pairs.size(), 40);
        for (int run = 0; run < RUNS; run++) {
            new ModelTest(run).go(pairs, run);
        }
        DUE.end();
    }

    private void go(List<Method[]> pairs, int run) throws ReflectiveOperationException {
        boolean cut = random.nextBoolean();
        for (int i = 0; cut && i < 25; i++) {
            int a = random.nextInt(20);
            both("cord", a, random.nextBoolean() ? a + 1 : a + 5, 0, run);
        }
        int size = random.nextInt(7);
        for (int s = 0; s < size; s++) {
            both("sleeper", random.nextInt(6), 10 + random.nextInt(300), random.nextInt(20), run);
        }
        while (made < CALLS) {
            if (random.nextInt(12) == 0) {
                feedText(run);
            }
            Method[] pair = pairs.get(random.nextInt(pairs.size()));
            if (pair[0].getName().equals("sheet") && random.nextInt(3) > 0) {
                fillSheet(run);
                continue;
            }
            Object[] arguments = new Object[pair[0].getParameterCount()];
            for (int i = 0; i < arguments.length; i++) {
                arguments[i] = argument(pair[0].getName(), i);
            }
            hold(pair, arguments, run);
        }
    }

    private void both(String name, int a, int b, int c, int run) throws ReflectiveOperationException {
        Class<?>[] types = {int.class, int.class, int.class};
        Method twin = Model.class.getDeclaredMethod(name, types);
        twin.setAccessible(true);
        hold(new Method[] {OneNet.class.getMethod(name, types), twin}, new Object[] {a, b, c}, run);
    }

    private void hold(Method[] pair, Object[] arguments, int run) throws ReflectiveOperationException {
        if (made >= CALLS) {
            return;
        }
        made++;
        long got = ((Number) pair[0].invoke(net, arguments)).longValue();
        long want = ((Number) pair[1].invoke(model, arguments)).longValue();
        DUE.is("run " + run + ": " + pair[0].getName() + java.util.Arrays.toString(arguments), got, want);
    }

    /** Mostly what a call takes, now and then anything. */
    private int argument(String name, int i) {
        if (random.nextInt(wild) == 0) {
            return FARTHEST[random.nextInt(FARTHEST.length)];
        }
        switch (name + i) {
            case "cord2": case "tie1": return random.nextInt(4) == 0 ? 1 : 0;
            case "cord0": case "corded0": case "pull0":
                lastKnot = random.nextInt(20);
                return lastKnot;
            case "cord1": case "corded1": case "pull1": return lastKnot + new int[] {-5, -1, 1, 5}[random.nextInt(4)];
            case "tie0": case "depth0": case "sleeper2": case "lie1": return random.nextInt(20);
            case "feed0": return 1 + random.nextInt(5);
            case "asks1": return random.nextInt(1000);
            case "asks2": return random.nextInt(21);
            case "asks3": return random.nextInt(1000);
            case "asks4": return random.nextInt(200);
            case "sleeper1": return 10 + random.nextInt(300);
            case "roll0": return random.nextInt(4);
            case "rolled1": return random.nextInt(21);
            case "turned0": case "laws1": return random.nextInt(5) == 0 ? 0 : random.nextInt(64);
            case "drawn0": case "odds0": return random.nextInt(100000);
            case "odds1": return 1 + random.nextInt(30);
            case "sheet2": return random.nextInt(42) - 1;
            case "cell1": case "copy1": case "copy3": return random.nextInt(25);
            case "cell2": return random.nextInt(300) - 50;
            case "copy4": return random.nextInt(12);
            case "sleepersBy2": return random.nextInt(12);
            case "taken0": return random.nextInt(27);
            case "drawn1": case "odds2": case "place1": case "swap0": case "order0": case "mend0": case "rim0":
            case "turned1": return random.nextInt(2);
            case "felt0": case "felt1": case "wakes0": case "woken0": case "place0": case "laws0": case "where1":
            case "lie0": case "told0": case "rolled0": return random.nextInt(6);
            default: return random.nextInt(8) - 1;
        }
    }

    private int lastKnot = 0;

    /** A sheet of depths, or of sleepers, or of anything. */
    private void fillSheet(int run) throws ReflectiveOperationException {
        int s = random.nextInt(4);
        int sort = random.nextInt(3);
        both("sheet", s, sort, random.nextBoolean() ? 20 : random.nextInt(41), run);
        int at = random.nextInt(4);
        for (int i = at; i < 20; i += 3) {
            both("cell", s, i, random.nextInt(7), run);
            both("cell", s, i + 1, random.nextInt(sort == 0 ? 140 : 320), run);
            both("cell", s, i + 2, random.nextInt(21), run);
        }
    }

    private void feedText(int run) throws ReflectiveOperationException {
        StringBuilder text = new StringBuilder();
        for (String key : new String[] {"felt", "slope", "bears"}) {
            text.append(key).append(' ').append(expression(random.nextInt(4))).append(blank()).append(';').append(blank());
        }
        int slips = random.nextInt(3) == 0 ? 1 + random.nextInt(2) : 0;
        String signs = " \n();+-*<=09az$\t\u00e9tolmre";
        for (int i = 0; i < slips; i++) {
            text.setCharAt(random.nextInt(text.length()), signs.charAt(random.nextInt(signs.length())));
        }
        if (random.nextInt(10) == 0) {
            text.setLength(random.nextInt(text.length()));
        }
        Class<?>[] types = new Class<?>[6];
        java.util.Arrays.fill(types, int.class);
        Method[] feed = {OneNet.class.getMethod("feed", types), Model.class.getDeclaredMethod("feed", types)};
        feed[1].setAccessible(true);
        for (int i = 0; i < text.length(); i += 5) {
            Object[] arguments = {Math.min(5, text.length() - i), 0, 0, 0, 0, 0};
            for (int j = 0; j < 5 && i + j < text.length(); j++) {
                arguments[1 + j] = (int) text.charAt(i + j);
            }
            hold(feed, arguments, run);
        }
        Method[] read = {OneNet.class.getMethod("text"), Model.class.getDeclaredMethod("text")};
        read[1].setAccessible(true);
        hold(read, new Object[0], run);
    }

    private String blank() {
        return random.nextInt(3) == 0 ? random.nextBoolean() ? " " : "\n" : "";
    }

    private String expression(int deep) {
        if (deep <= 0) {
            String[] ones = {"told", "more", "far", "weight", "knot", "who", "" + random.nextInt(13), "" + random.nextInt(10000)};
            return ones[random.nextInt(ones.length)];
        }
        String a = expression(deep - 1 - random.nextInt(2));
        String b = expression(deep - 1 - random.nextInt(2));
        switch (random.nextInt(11)) {
            case 0: return a + blank() + "+" + blank() + b;
            case 1: return a + blank() + "-" + blank() + b;
            case 2: return a + "*" + blank() + b;
            case 3: return a + "<" + b;
            case 4: return a + blank() + "=" + b;
            case 5: return a + " and " + b;
            case 6: return a + " or " + b;
            case 7: return "not " + a;
            case 8: return "-" + blank() + a;
            case 9: return "(" + a + ")";
            default: return "(" + a + "-" + b + ")" + blank();
        }
    }
}
