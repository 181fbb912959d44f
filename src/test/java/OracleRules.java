import java.util.ArrayList;
import java.util.HashMap;
import java.util.List;
import java.util.Map;
import java.util.function.ToIntFunction;

/** The rules' language told again: first all tokens, then a tree of functions. */
final class OracleRules {
    private static final List<String> VALUES = List.of("missed", "wrong", "run", "score", "posts", "club", "free");
    private static final List<String> PARAMS = List.of("limit", "gap", "window");

    private record Token(String text, int at) {
        boolean isWord() {
            return !text.isEmpty() && text.charAt(0) >= 'a' && text.charAt(0) <= 'z';
        }

        boolean isNumber() {
            return !text.isEmpty() && text.charAt(0) >= '0' && text.charAt(0) <= '9';
        }
    }

    private static final class Fault extends Exception {
        private static final long serialVersionUID = 1L;
        final int kind;
        final int at;

        Fault(int kind, int at) {
            this.kind = kind;
            this.at = at;
        }
    }

    private interface Value extends ToIntFunction<Map<String, Integer>> { }

    final List<Value> penalties = new ArrayList<>();
    final List<Value> outs = new ArrayList<>();
    final Map<String, Integer> params = new HashMap<>(Map.of("limit", 3600, "gap", 60, "window", 900));
    int fault = 0;
    int faultAt = -1;
    private final List<Token> tokens = new ArrayList<>();
    private int next = 0;

    static OracleRules read(String text) {
        OracleRules r = new OracleRules();
        r.cut(text);
        try {
            r.clauses();
        } catch (Fault f) {
            r.fault = f.kind;
            r.faultAt = f.at;
        }
        return r;
    }

    int param(String name) {
        return params.get(name);
    }

    int penalty(Map<String, Integer> values) {
        return penalties.stream().mapToInt(p -> Math.max(-9999, Math.min(9999, p.applyAsInt(values)))).sum();
    }

    boolean out(Map<String, Integer> values) {
        return outs.stream().anyMatch(o -> o.applyAsInt(values) != 0);
    }

    private void cut(String text) {
        int i = 0;
        while (i < text.length()) {
            char c = text.charAt(i);
            if (c == ' ' || c == '\n') {
                i++;
                continue;
            }
            int end = i + 1;
            String like = c >= 'a' && c <= 'z' ? "[a-z]" : c >= '0' && c <= '9' ? "[0-9]" : "";
            while (end < text.length() && text.substring(end, end + 1).matches(like)) {
                end++;
            }
            tokens.add(new Token(text.substring(i, end), i));
            i = end;
        }
        // the end of the text is an empty token
        tokens.add(new Token("", text.length()));
    }

    private Token peek() {
        return tokens.get(next);
    }

    private boolean take(String text) {
        if (peek().text.equals(text)) {
            next++;
            return true;
        }
        return false;
    }

    private void want(String text) throws Fault {
        if (!take(text)) {
            throw new Fault(1, peek().at);
        }
    }

    private void clauses() throws Fault {
        int count = 0;
        while (!peek().text.isEmpty()) {
            Token t = peek();
            if (!List.of("penalty", "out", "set").contains(t.text)) {
                throw new Fault(1, t.at);
            }
            if (++count > 20) {
                throw new Fault(2, t.at);
            }
            next++;
            if (t.text.equals("set")) {
                setting();
            } else {
                Value v = unless();
                (t.text.equals("penalty") ? penalties : outs).add(v);
            }
            want(";");
        }
    }

    private void setting() throws Fault {
        Token t = peek();
        if (!t.isWord()) {
            throw new Fault(1, t.at);
        }
        if (!PARAMS.contains(t.text)) {
            throw new Fault(3, t.at);
        }
        next++;
        params.put(t.text, number());
    }

    private int number() throws Fault {
        Token t = peek();
        if (!t.isNumber()) {
            throw new Fault(1, t.at);
        }
        if (t.text.length() > 5) {
            throw new Fault(2, t.at);
        }
        next++;
        return Integer.parseInt(t.text);
    }

    private Value unless() throws Fault {
        Value a = expr(1);
        if (!take("unless")) {
            return a;
        }
        Value b = expr(1);
        return v -> b.applyAsInt(v) != 0 ? 0 : a.applyAsInt(v);
    }

    private Value expr(int depth) throws Fault {
        Token t = peek();
        if (depth == 7 && (t.isWord() || t.isNumber() || t.text.equals("("))) {
            throw new Fault(2, t.at);
        }
        Value a = and(depth);
        while (take("or")) {
            Value l = a;
            Value r = and(depth);
            a = v -> l.applyAsInt(v) != 0 | r.applyAsInt(v) != 0 ? 1 : 0;
        }
        return a;
    }

    private Value and(int depth) throws Fault {
        Value a = not(depth, 0);
        while (take("and")) {
            Value l = a;
            Value r = not(depth, 0);
            a = v -> l.applyAsInt(v) != 0 & r.applyAsInt(v) != 0 ? 1 : 0;
        }
        return a;
    }

    private Value not(int depth, int nots) throws Fault {
        Token t = peek();
        if (take("not")) {
            if (nots == 6) {
                throw new Fault(2, t.at);
            }
            Value a = not(depth, nots + 1);
            return v -> a.applyAsInt(v) == 0 ? 1 : 0;
        }
        Value a = sum(depth);
        if (take("<")) {
            Value b = sum(depth);
            return v -> a.applyAsInt(v) < b.applyAsInt(v) ? 1 : 0;
        }
        if (take("=")) {
            Value b = sum(depth);
            return v -> a.applyAsInt(v) == b.applyAsInt(v) ? 1 : 0;
        }
        return a;
    }

    private Value sum(int depth) throws Fault {
        Value a = product(depth);
        while (peek().text.equals("+") || peek().text.equals("-")) {
            boolean plus = tokens.get(next++).text.equals("+");
            Value l = a;
            Value r = product(depth);
            a = v -> plus ? l.applyAsInt(v) + r.applyAsInt(v) : l.applyAsInt(v) - r.applyAsInt(v);
        }
        return a;
    }

    private Value product(int depth) throws Fault {
        Value a = part(depth);
        while (peek().text.equals("*") || peek().text.equals("/")) {
            boolean times = tokens.get(next++).text.equals("*");
            Value l = a;
            Value r = part(depth);
            a = v -> times ? l.applyAsInt(v) * r.applyAsInt(v)
                    : r.applyAsInt(v) == 0 ? 0 : l.applyAsInt(v) / r.applyAsInt(v);
        }
        return a;
    }

    private Value part(int depth) throws Fault {
        Token t = peek();
        if (take("(")) {
            Value a = expr(depth + 1);
            want(")");
            return a;
        }
        if (t.isWord()) {
            if (!VALUES.contains(t.text) && !PARAMS.contains(t.text)) {
                throw new Fault(3, t.at);
            }
            next++;
            return VALUES.contains(t.text) ? v -> v.get(t.text) : v -> params.get(t.text);
        }
        int n = number();
        return v -> n;
    }
}
