import java.util.Random;

/** Random texts of cities, most of them without a fault, and spoilt ones. */
final class RandomTexts {
    private static final String[] OF_SHAMES = {"odd", "weight", "count", "eyes", "vanity", "owner", "day"};
    private static final String[] OF_RETURNS = {"shame", "vanity", "many", "day"};
    private static final String[] ANY = {"places", "person", "blind", "thing", "by", "term", "shames", "returns", "or",
        "and", "not", "odd", "shame", "many", "foo", ";", "(", ")", "+", "-", "*", "/", "<", "=", "0", "1", "7", "10",
        "31", "100", "9999", "12345", "00001", "x", "A", "\n", "\t", ",", "not not not not not not not 1", "((((((1))))))",
        "(((((1)))))", ">", "\u00e9", "2", ";term 3;", ";term 3;", ";places 2;", ";shames 1;", ";returns 0;",
        "places 6;", ";person 1 0;", ";thing 1 1 0 by 1;", ";thing 1 1 1 by 1;"};

    private final Random random;

    RandomTexts(Random random) {
        this.random = random;
    }

    String city() {
        StringBuilder s = new StringBuilder();
        int places = 3;
        if (random.nextBoolean()) {
            places = 2 + random.nextInt(5);
            s.append("places ").append(places).append(';');
        }
        boolean few = random.nextBoolean();
        int people = few ? random.nextInt(4) : 1 + random.nextInt(8);
        for (int i = 0; i < people; i++) {
            s.append(random.nextInt(5) == 0 ? "blind " : "person ").append(random.nextInt(10));
            int steps = 1 + random.nextInt(random.nextBoolean() ? 2 : 6);
            for (int k = 0; k < steps; k++) {
                s.append(blank()).append(random.nextInt(random.nextBoolean() ? 2 : places));
            }
            s.append(';');
        }
        int things = people == 0 ? 0 : random.nextInt(few ? 4 : 11);
        for (int i = 0; i < things; i++) {
            int owner = random.nextInt(people);
            s.append("thing ").append(1 + random.nextInt(30)).append(blank()).append(random.nextInt(10)).append(blank()).append(owner);
            int by = random.nextInt(people);
            if (by != owner && random.nextInt(3) > 0) {
                s.append(" by ").append(by);
            }
            s.append(';');
        }
        if (random.nextBoolean()) {
            s.append("term ").append(random.nextInt(4) == 0 ? 1 + random.nextInt(99) : 1 + random.nextInt(6)).append(';');
        }
        rules(s);
        return s.toString();
    }

    private void rules(StringBuilder s) {
        if (random.nextInt(3) > 0) {
            add(s, "shames ", expr(OF_SHAMES, random.nextInt(4)));
        }
        if (random.nextInt(3) > 0) {
            String expr = expr(OF_RETURNS, random.nextInt(4));
            add(s, "returns ", random.nextBoolean() ? expr : (1 + random.nextInt(60)) + "<shame and " + expr);
        }
    }

    private static void add(StringBuilder s, String word, String expr) {
        if (s.length() + word.length() + expr.length() < 699) {
            s.append(word).append(expr).append(';');
        }
    }

    private String blank() {
        return random.nextInt(8) == 0 ? "\n " : " ";
    }

    String expr(String[] values, int depth) {
        return join(values, depth, " or ", 5, 0);
    }

    /** Levels 0 or, 1 and, 3 sum, 4 product; the tests and nots stand between and and sum. */
    private String join(String[] values, int depth, String by, int seldom, int level) {
        String s = below(values, depth, level);
        while (random.nextInt(seldom) == 0) {
            String sign = level == 3 ? random.nextBoolean() ? "+" : "-" : level == 4 ? random.nextBoolean() ? "*" : "/" : by;
            s = s + sign + below(values, depth, level);
        }
        return s;
    }

    private String below(String[] values, int depth, int level) {
        switch (level) {
            case 0: return join(values, depth, " and ", 5, 1);
            case 1: return not(values, depth);
            case 3: return join(values, depth, "", 4, 4);
            default: return part(values, depth);
        }
    }

    private String not(String[] values, int depth) {
        StringBuilder s = new StringBuilder();
        for (int i = 0; i < 6 && random.nextInt(5) == 0; i++) {
            s.append("not ");
        }
        s.append(join(values, depth, "", 2, 3));
        if (random.nextInt(3) == 0) {
            s.append(random.nextBoolean() ? "<" : "=").append(join(values, depth, "", 3, 3));
        }
        return s.toString();
    }

    private String part(String[] values, int depth) {
        int kind = random.nextInt(6);
        if (kind == 0 && depth > 0) {
            return "(" + expr(values, depth - 1) + ")";
        }
        if (kind < 3) {
            return Integer.toString(random.nextInt(random.nextInt(6) == 0 ? 10000 : 12));
        }
        return values[random.nextInt(values.length)];
    }

    /** A rule of tokens that are drawn one by one, mostly such as may follow, so that faults come late. */
    String soup() {
        StringBuilder s = new StringBuilder(random.nextBoolean() ? "shames " : "returns ");
        String[] parts = {"1", "odd", "shame", "vanity", "day", "not ", "not not not ", "(", "((", "((("};
        String[] behind = {"+", "-", "*", "/", "<", "=", " and ", " or ", ")", "))", ";"};
        boolean due = true;
        for (int i = 0; i < 40 && s.charAt(s.length() - 1) != ';'; i++) {
            if (random.nextInt(25) == 0) {
                s.append(ANY[random.nextInt(ANY.length)]);
            }
            String token = due ? parts[random.nextInt(parts.length)] : behind[random.nextInt(behind.length)];
            s.append(token);
            due = due ? token.charAt(0) == '(' || token.startsWith("not") : token.charAt(0) != ')';
        }
        return s.toString();
    }

    String spoil(String text) {
        String s = text;
        int times = 1 + random.nextInt(3);
        for (int i = 0; i < times; i++) {
            int at = random.nextInt(s.length() + 1);
            int end = Math.min(s.length(), at + random.nextInt(4));
            switch (random.nextInt(4)) {
                case 0: s = s.substring(0, at) + s.substring(end); break;
                case 1: s = s.substring(0, at) + " " + ANY[random.nextInt(ANY.length)] + " " + s.substring(at); break;
                case 2: s = s.substring(0, at) + ANY[random.nextInt(ANY.length)] + s.substring(end); break;
                default: s = s.substring(0, at);
            }
        }
        return s;
    }
}
