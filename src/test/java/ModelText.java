import java.util.ArrayList;
import java.util.List;
import java.util.Map;
import java.util.function.ToIntFunction;
import java.util.regex.Matcher;
import java.util.regex.Pattern;

/** A TEXT for Model: cut into tokens by a pattern first, then made into functions of its names. */
final class ModelText {
    private static final Pattern TOKEN = Pattern.compile("[ \n]+|([a-z]+|[0-9]+|[-();+*<=])");
    private static final List<String> NAMES = List.of("weight", "day", "wet", "kind", "missed", "price");
    private static final List<String> KEYS = List.of("pay", "fine", "find", "or", "and", "not");

    private static final class Fault extends RuntimeException {
        private static final long serialVersionUID = 1L;

        Fault() {
            super(null, null, false, false);
        }
    }

    final List<ToIntFunction<Map<String, Integer>>> parts = new ArrayList<>();
    final int fault;

    private final List<String> tokens = new ArrayList<>();
    private final List<Integer> places = new ArrayList<>();
    private int next = 0;
    private int open = 0;

    ModelText(String text) {
        cut(text);
        int place = -1;
        try {
            for (String key : List.of("pay", "fine", "find")) {
                take(key);
                parts.add(either());
                take(";");
            }
            take("end");
        } catch (Fault f) {
            place = places.get(next);
        }
        fault = place;
    }

    private void cut(String text) {
        Matcher m = TOKEN.matcher(text);
        int at = 0;
        while (at < text.length()) {
            m.region(at, text.length());
            boolean is = m.lookingAt();
            if (!is || m.group(1) != null) {
                String token = is ? m.group(1) : "?";
                boolean word = Character.isLetter(token.charAt(0)) && token.charAt(0) < 128;
                boolean bad = word ? !NAMES.contains(token) && !KEYS.contains(token)
                        : Character.isDigit(token.charAt(0)) && token.length() > 4;
                tokens.add(bad ? "?" : token);
                places.add(at);
            }
            at = is ? m.end() : at + 1;
        }
        tokens.add("end");
        places.add(text.length());
    }

    private boolean sees(String token) {
        return tokens.get(next).equals(token);
    }

    private void take(String token) {
        if (!sees(token)) {
            throw new Fault();
        }
        if (!token.equals("end")) {
            next++;
        }
    }

    private void opens(String token) {
        if (open == 5) {
            throw new Fault();
        }
        take(token);
        open++;
    }

    private static int one(boolean is) {
        return is ? 1 : 0;
    }

    private ToIntFunction<Map<String, Integer>> either() {
        ToIntFunction<Map<String, Integer>> a = both();
        while (sees("or")) {
            take("or");
            ToIntFunction<Map<String, Integer>> left = a;
            ToIntFunction<Map<String, Integer>> right = both();
            a = m -> one(left.applyAsInt(m) != 0 || right.applyAsInt(m) != 0);
        }
        return a;
    }

    private ToIntFunction<Map<String, Integer>> both() {
        ToIntFunction<Map<String, Integer>> a = not();
        while (sees("and")) {
            take("and");
            ToIntFunction<Map<String, Integer>> left = a;
            ToIntFunction<Map<String, Integer>> right = not();
            a = m -> one(left.applyAsInt(m) != 0 && right.applyAsInt(m) != 0);
        }
        return a;
    }

    private ToIntFunction<Map<String, Integer>> not() {
        if (sees("not")) {
            opens("not");
            ToIntFunction<Map<String, Integer>> a = not();
            open--;
            return m -> one(a.applyAsInt(m) == 0);
        }
        ToIntFunction<Map<String, Integer>> a = sum();
        if (sees("<")) {
            take("<");
            ToIntFunction<Map<String, Integer>> b = sum();
            return m -> one(a.applyAsInt(m) < b.applyAsInt(m));
        }
        if (sees("=")) {
            take("=");
            ToIntFunction<Map<String, Integer>> b = sum();
            return m -> one(a.applyAsInt(m) == b.applyAsInt(m));
        }
        return a;
    }

    private ToIntFunction<Map<String, Integer>> sum() {
        ToIntFunction<Map<String, Integer>> a = term();
        while (sees("+") || sees("-")) {
            int by = sees("+") ? 1 : -1;
            next++;
            ToIntFunction<Map<String, Integer>> left = a;
            ToIntFunction<Map<String, Integer>> right = term();
            a = m -> left.applyAsInt(m) + by * right.applyAsInt(m);
        }
        return a;
    }

    private ToIntFunction<Map<String, Integer>> term() {
        ToIntFunction<Map<String, Integer>> a = factor();
        while (sees("*")) {
            take("*");
            ToIntFunction<Map<String, Integer>> left = a;
            ToIntFunction<Map<String, Integer>> right = factor();
            a = m -> left.applyAsInt(m) * right.applyAsInt(m);
        }
        return a;
    }

    private ToIntFunction<Map<String, Integer>> factor() {
        String token = tokens.get(next);
        if (Character.isDigit(token.charAt(0))) {
            next++;
            return m -> Integer.parseInt(token);
        }
        if (NAMES.contains(token)) {
            next++;
            return m -> m.get(token);
        }
        if (sees("-")) {
            opens("-");
            ToIntFunction<Map<String, Integer>> a = factor();
            open--;
            return m -> -a.applyAsInt(m);
        }
        opens("(");
        ToIntFunction<Map<String, Integer>> a = either();
        take(")");
        open--;
        return a;
    }
}
