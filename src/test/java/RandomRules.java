import java.util.Random;

/** Texts that are rules, or nearly. */
final class RandomRules {
    private static final String[] PARTS = {"missed", "wrong", "run", "score", "posts", "club", "free", "limit", "gap",
        "window", "0", "1", "2", "7", "99999", "00010", "100"};
    private static final String[] STRANGE = {"penalty", "out", "set", "unless", "or", "and", "not", "fog", "123456",
        "(", ")", "+", "-", "*", "/", "<", "=", ";", "A", "?", "\t", "miss", "missedx", "" + (char) 200, "((((((1))))))",
        "not not not not not not not 1", "(((((1)))))", "not not not not not not 1", "((((((;", "((((((fog"};

    private final Random random;
    private final StringBuilder text = new StringBuilder();
    private final int strangeness;

    RandomRules(Random random) {
        this.random = random;
        this.strangeness = random.nextInt(2) == 0 ? 1000 : 25;
    }

    String text() {
        int clauses = random.nextInt(15) == 0 ? 19 + random.nextInt(4) : random.nextInt(6);
        for (int i = 0; i < clauses && text.length() < 440; i++) {
            clause(clauses > 10);
        }
        if (random.nextInt(6) == 0 && text.length() > 0) {
            int at = random.nextInt(text.length());
            if (random.nextBoolean()) {
                text.deleteCharAt(at);
            } else {
                text.insert(at, STRANGE[random.nextInt(STRANGE.length)]);
            }
        }
        return text.length() > 480 ? text.substring(0, 480) : text.toString();
    }

    private void clause(boolean brief) {
        if (random.nextInt(4) == 0) {
            word("set");
            word(new String[] {"limit", "gap", "window"}[random.nextInt(3)]);
            word("" + random.nextInt(random.nextInt(4) == 0 ? 99999 : 50));
        } else {
            word(random.nextInt(3) > 0 ? "penalty" : "out");
            if (brief) {
                word("1");
            } else {
                expr(0);
                if (random.nextInt(3) == 0) {
                    word("unless");
                    expr(0);
                }
            }
        }
        word(";");
    }

    private void word(String word) {
        String it = random.nextInt(strangeness) == 0 ? STRANGE[random.nextInt(STRANGE.length)] : word;
        boolean joins = text.length() > 0 && joins(text.charAt(text.length() - 1), it.charAt(0));
        if (joins || random.nextInt(5) == 0) {
            text.append(random.nextInt(8) == 0 ? '\n' : ' ');
        }
        text.append(it);
    }

    private static boolean joins(char a, char b) {
        return Character.isLetter(a) && Character.isLetter(b) || Character.isDigit(a) && Character.isDigit(b);
    }

    private void expr(int depth) {
        for (int i = random.nextInt(6) == 0 ? 0 : 1; i < 2; i++) {
            and(depth);
            if (i < 1) {
                word("or");
            }
        }
    }

    private void and(int depth) {
        for (int i = random.nextInt(5) == 0 ? 0 : 1; i < 2; i++) {
            for (int n = random.nextInt(6); n > 4; n--) {
                word("not");
            }
            sum(depth);
            if (random.nextInt(3) == 0) {
                word(random.nextBoolean() ? "<" : "=");
                sum(depth);
            }
            if (i < 1) {
                word("and");
            }
        }
    }

    private void sum(int depth) {
        int terms = 1 + random.nextInt(2);
        for (int i = 0; i < terms; i++) {
            if (i > 0) {
                word(random.nextBoolean() ? "+" : "-");
            }
            product(depth);
        }
    }

    private void product(int depth) {
        int factors = random.nextInt(3) == 0 ? 2 + random.nextInt(2) : 1;
        for (int i = 0; i < factors; i++) {
            if (i > 0) {
                word(random.nextInt(3) > 0 ? "*" : "/");
            }
            if (random.nextInt(5) == 0 && depth < 7) {
                word("(");
                expr(depth + 1);
                word(")");
            } else {
                word(PARTS[random.nextInt(PARTS.length)]);
            }
        }
    }
}
