import java.util.ArrayList;
import java.util.List;
import java.util.function.ToIntFunction;
import java.util.regex.Matcher;
import java.util.regex.Pattern;

/** Reads a text for the Model, by exceptions and functions. */
final class ModelReader {
    /** A fault at a place. */
    static final class Fault extends RuntimeException {
        private static final long serialVersionUID = 1L;
        final int place;

        Fault(int place) {
            this.place = place;
        }
    }

    private static final Pattern TOKEN = Pattern.compile("[ \\n]*(?:([a-z]+)|([0-9]+)|([();+\\-*<=])|([^ \\n]))");
    private static final List<String> WORDS =
            List.of("told", "more", "far", "weight", "knot", "who", "felt", "slope", "bears", "or", "and", "not");

    private final List<String> tokens = new ArrayList<>();
    private final List<Integer> places = new ArrayList<>();
    private int next = 0;

    ModelReader(String tape) {
        Matcher found = TOKEN.matcher(tape);
        int from = 0;
        while (found.find(from)) {
            String token = null;
            for (int g = 1; g <= 4; g++) {
                if (found.group(g) != null) {
                    token = found.group(g);
                    places.add(found.start(g));
                    boolean wrong = g == 1 && !WORDS.contains(token) || g == 2 && token.length() > 4 || g == 4;
                    tokens.add(wrong ? "wrong" : token);
                }
            }
            from = found.end();
        }
        tokens.add("end");
        places.add(tape.length());
    }

    private String peek() {
        return tokens.get(next);
    }

    private Fault fault() {
        return new Fault(places.get(next));
    }

    private boolean comes(String token) {
        if (peek().equals(token)) {
            next++;
            return true;
        }
        return false;
    }

    private void must(String token) {
        if (!comes(token)) {
            throw fault();
        }
    }

    Model.Text text() {
        List<ToIntFunction<Model.Names>> parts = new ArrayList<>();
        for (String key : List.of("felt", "slope", "bears")) {
            must(key);
            parts.add(either(0));
            must(";");
        }
        if (!peek().equals("end")) {
            throw fault();
        }
        return new Model.Text(parts.get(0), parts.get(1), parts.get(2));
    }

    private int deeper(int open) {
        if (open == 5) {
            next--;
            throw fault();
        }
        return open + 1;
    }

    private ToIntFunction<Model.Names> either(int open) {
        ToIntFunction<Model.Names> left = both(open);
        while (comes("or")) {
            ToIntFunction<Model.Names> a = left;
            ToIntFunction<Model.Names> b = both(open);
            left = n -> a.applyAsInt(n) != 0 || b.applyAsInt(n) != 0 ? 1 : 0;
        }
        return left;
    }

    private ToIntFunction<Model.Names> both(int open) {
        ToIntFunction<Model.Names> left = no(open);
        while (comes("and")) {
            ToIntFunction<Model.Names> a = left;
            ToIntFunction<Model.Names> b = no(open);
            left = n -> a.applyAsInt(n) != 0 && b.applyAsInt(n) != 0 ? 1 : 0;
        }
        return left;
    }

    private ToIntFunction<Model.Names> no(int open) {
        if (comes("not")) {
            ToIntFunction<Model.Names> a = no(deeper(open));
            return n -> a.applyAsInt(n) == 0 ? 1 : 0;
        }
        ToIntFunction<Model.Names> a = sum(open);
        if (comes("<")) {
            ToIntFunction<Model.Names> b = sum(open);
            return n -> a.applyAsInt(n) < b.applyAsInt(n) ? 1 : 0;
        }
        if (comes("=")) {
            ToIntFunction<Model.Names> b = sum(open);
            return n -> a.applyAsInt(n) == b.applyAsInt(n) ? 1 : 0;
        }
        return a;
    }

    private ToIntFunction<Model.Names> sum(int open) {
        ToIntFunction<Model.Names> left = term(open);
        while (true) {
            ToIntFunction<Model.Names> a = left;
            if (comes("+")) {
                ToIntFunction<Model.Names> b = term(open);
                left = n -> a.applyAsInt(n) + b.applyAsInt(n);
            } else if (comes("-")) {
                ToIntFunction<Model.Names> b = term(open);
                left = n -> a.applyAsInt(n) - b.applyAsInt(n);
            } else {
                return left;
            }
        }
    }

    private ToIntFunction<Model.Names> term(int open) {
        ToIntFunction<Model.Names> left = one(open);
        while (comes("*")) {
            ToIntFunction<Model.Names> a = left;
            ToIntFunction<Model.Names> b = one(open);
            left = n -> a.applyAsInt(n) * b.applyAsInt(n);
        }
        return left;
    }

    private ToIntFunction<Model.Names> one(int open) {
        String token = peek();
        if (token.matches("[0-9]+")) {
            next++;
            int value = Integer.parseInt(token);
            return n -> value;
        }
        if (comes("-")) {
            ToIntFunction<Model.Names> a = one(deeper(open));
            return n -> -a.applyAsInt(n);
        }
        if (comes("(")) {
            ToIntFunction<Model.Names> a = either(deeper(open));
            must(")");
            return a;
        }
        ToIntFunction<Model.Names> name = named(token);
        if (name == null) {
            throw fault();
        }
        next++;
        return name;
    }

    private static ToIntFunction<Model.Names> named(String token) {
        return switch (token) {
            case "told" -> Model.Names::told;
            case "more" -> Model.Names::more;
            case "far" -> Model.Names::far;
            case "weight" -> Model.Names::weight;
            case "knot" -> Model.Names::knot;
            case "who" -> Model.Names::who;
            default -> null;
        };
    }
}
