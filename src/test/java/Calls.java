import java.lang.reflect.InvocationTargetException;
import java.lang.reflect.Method;
import java.util.ArrayList;
import java.util.HashMap;
import java.util.List;
import java.util.Map;

/** Calls written as texts, "lie(0, 7)", made on a OneNet or on a Model. */
final class Calls {
    private static final Map<String, Method> FOUND = new HashMap<>();

    private Calls() {
    }

    static long answer(Object target, String call) {
        int[] numbers = numbers(call);
        Object[] arguments = new Object[numbers.length];
        for (int i = 0; i < numbers.length; i++) {
            arguments[i] = numbers[i];
        }
        try {
            return ((Number) method(target, name(call)).invoke(target, arguments)).longValue();
        } catch (IllegalAccessException | InvocationTargetException thrown) {
            throw new IllegalStateException(call, thrown);
        }
    }

    /** Makes all the calls; the target. */
    static <T> T made(T target, List<String> calls) {
        for (String call : calls) {
            answer(target, call);
        }
        return target;
    }

    /** The same call with another number at a place. */
    static String with(String call, int at, int number) {
        int[] numbers = numbers(call);
        numbers[at] = number;
        return call(name(call), numbers);
    }

    static String call(String name, int... numbers) {
        StringBuilder call = new StringBuilder(name).append('(');
        for (int i = 0; i < numbers.length; i++) {
            call.append(i == 0 ? "" : ", ").append(numbers[i]);
        }
        return call.append(')').toString();
    }

    /** How many numbers a call takes. */
    static int size(Object target, String name) {
        return method(target, name).getParameterCount();
    }

    /** The calls of feed() that put a text on the tape. */
    static List<String> feeding(String text) {
        List<String> calls = new ArrayList<>();
        for (int from = 0; from < text.length(); from += 5) {
            int n = Math.min(5, text.length() - from);
            int[] numbers = {n, 0, 0, 0, 0, 0};
            for (int i = 0; i < n; i++) {
                numbers[1 + i] = text.charAt(from + i);
            }
            calls.add(call("feed", numbers));
        }
        return calls;
    }

    private static String name(String call) {
        return call.substring(0, call.indexOf('('));
    }

    private static int[] numbers(String call) {
        String inside = call.substring(call.indexOf('(') + 1, call.indexOf(')'));
        if (inside.isEmpty()) {
            return new int[0];
        }
        String[] each = inside.split(", ");
        int[] numbers = new int[each.length];
        for (int i = 0; i < each.length; i++) {
            numbers[i] = Integer.parseInt(each[i]);
        }
        return numbers;
    }

    private static Method method(Object target, String name) {
        return FOUND.computeIfAbsent(target.getClass().getName() + "." + name, key -> {
            for (Method method : target.getClass().getDeclaredMethods()) {
                if (method.getName().equals(name)) {
                    method.setAccessible(true);
                    return method;
                }
            }
            throw new IllegalArgumentException(key);
        });
    }
}
