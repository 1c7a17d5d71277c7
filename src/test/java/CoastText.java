import java.util.ArrayList;
import java.util.List;
import java.util.Random;

/** A drawn coast: its text, and what it tells, without anything having been read. */
final class CoastText {
    /** A part of a law. Truths are 1 and 0. */
    static final class Part {
        final String kind;
        final long number;
        final Part[] of;

        Part(String kind, long number, Part... of) {
            this.kind = kind;
            this.number = number;
            this.of = of;
        }

        long value(long[] named) {
            switch (kind) {
                case "n": return number;
                case "name": return named[(int) number];
                case "+": return kept(of[0].value(named) + of[1].value(named));
                case "-": return kept(of[0].value(named) - of[1].value(named));
                case "*": return kept(of[0].value(named) * of[1].value(named));
                case "=": return of[0].value(named) == of[1].value(named) ? 1 : 0;
                case "<": return of[0].value(named) < of[1].value(named) ? 1 : 0;
                case ">": return of[0].value(named) > of[1].value(named) ? 1 : 0;
                case "and": return of[0].value(named) != 0 && of[1].value(named) != 0 ? 1 : 0;
                case "or": return of[0].value(named) != 0 || of[1].value(named) != 0 ? 1 : 0;
                case "not": return of[0].value(named) == 0 ? 1 : 0;
                case "if": return of[0].value(named) != 0 ? of[1].value(named) : of[2].value(named);
                default: throw new IllegalStateException(kind);
            }
        }

        private static long kept(long v) {
            return Math.max(-1000000, Math.min(1000000, v));
        }
    }

    private static final String[] NAMES = {"hill", "stack", "west", "seen", "fear", "weather"};

    final String text;
    int lines;
    int weather;
    final List<int[]> hills = new ArrayList<>(); // stack, fear, gap, took
    final List<Integer> villages = new ArrayList<>();
    final List<int[]> roads = new ArrayList<>();
    Part takes;
    Part adds;
    private final Random random;
    private final StringBuilder out = new StringBuilder();

    CoastText() {
        random = new Random(0);
        text = "";
    }

    CoastText(Random random) {
        this.random = random;
        String made;
        do {
            hills.clear();
            villages.clear();
            roads.clear();
            takes = null;
            adds = null;
            out.setLength(0);
            make();
            made = out.toString();
        } while (made.length() > 900);
        text = made;
    }

    private void make() {
        weather = random.nextInt(10);
        say("coast", "weather", "" + weather, ";");
        lines = 1;
        int wanted = random.nextInt(3) == 0 ? random.nextInt(5) : 3 + random.nextInt(2);
        boolean isPlain = random.nextInt(6) == 0;
        for (int i = 0; i < 60 && lines < 24; i++) {
            int kind = random.nextInt(i < 8 ? 4 : 12);
            if (hills.size() < wanted && kind < 2) {
                hill();
            } else if (kind == 2 && villages.size() < 4) {
                int needs = random.nextInt(10);
                villages.add(needs);
                line("village", "needs", "" + needs);
            } else if (kind == 3 && roads.size() < 8 && !hills.isEmpty() && !villages.isEmpty()) {
                road();
            } else if (kind == 4 && !isPlain && random.nextInt(4) == 0) {
                say("takes", ":");
                takes = random.nextBoolean() ? livelyTruth() : truth(0);
                line();
            } else if (kind == 5 && !isPlain && random.nextInt(4) == 0) {
                say("adds", ":");
                adds = random.nextBoolean() ? table(0) : sum(0);
                line();
            }
        }
    }

    private void line(String... tokens) {
        say(tokens);
        say(";");
        lines++;
    }

    private void say(String... tokens) {
        for (String token : tokens) {
            char last = out.length() == 0 ? ';' : out.charAt(out.length() - 1);
            char next = token.charAt(0);
            boolean isNeeded = letter(last) && letter(next) || digit(last) && digit(next);
            if (isNeeded || random.nextInt(8) == 0) {
                out.append(random.nextInt(9) == 0 ? "\n" : " ");
            }
            out.append(token);
        }
    }

    private static boolean letter(char c) {
        return c >= 'a' && c <= 'z';
    }

    private static boolean digit(char c) {
        return c >= '0' && c <= '9';
    }

    private String number(int n) {
        return random.nextInt(12) == 0 ? "00" + n : "" + n;
    }

    private void hill() {
        int[] hill = {random.nextInt(5), random.nextInt(10), 1, 0};
        say("hill", "stack", number(hill[0]), "fear", number(hill[1]));
        for (int i = random.nextInt(4); i > 0; i--) {
            if (random.nextBoolean()) {
                hill[2] = random.nextInt(10);
                say("gap", number(hill[2]));
            } else {
                hill[3] = 1;
                say("took");
            }
        }
        hills.add(hill);
        line();
    }

    private void road() {
        int[] road = {random.nextInt(hills.size()), random.nextInt(villages.size()), random.nextInt(10)};
        roads.add(road);
        line("road", "" + road[0], "" + road[1], "carries", "" + road[2]);
    }

    /** One sum for each height: coasts with such laws come to rest late, or never. */
    private Part table(int height) {
        if (height == 4) {
            return leaf();
        }
        say("if", "stack", "=", "" + height, "then");
        Part is = new Part("=", 0, new Part("name", 1), new Part("n", height));
        Part then = leaf();
        say("else");
        Part other = table(height + 1);
        say("end");
        return new Part("if", 0, is, then, other);
    }

    private Part leaf() {
        int kind = random.nextInt(4);
        if (kind == 0) {
            say("west");
            return new Part("name", 2);
        }
        int n = random.nextInt(5);
        if (kind == 1) {
            say("" + n);
            return new Part("n", n);
        }
        int than = random.nextInt(4);
        int other = random.nextInt(5);
        int name = 2 + random.nextInt(2);
        say("if", NAMES[name], ">", "" + (name == 3 ? 0 : than), "then", "" + n, "else", "" + other, "end");
        Part more = new Part(">", 0, new Part("name", name), new Part("n", name == 3 ? 0 : than));
        return new Part("if", 0, more, new Part("n", n), new Part("n", other));
    }

    private Part livelyTruth() {
        Part left = table(0);
        int than = random.nextInt(4);
        say(">", "" + than);
        return new Part(">", 0, left, new Part("n", than));
    }

    private Part truth(int within) {
        Part all = both(within);
        for (int i = 0; i < 2 && random.nextInt(4) == 0; i++) {
            say("or");
            all = new Part("or", 0, all, both(within));
        }
        return all;
    }

    private Part both(int within) {
        Part all = unit(within);
        for (int i = 0; i < 2 && random.nextInt(4) == 0; i++) {
            say("and");
            all = new Part("and", 0, all, unit(within));
        }
        return all;
    }

    private Part unit(int within) {
        int kind = within < 6 ? random.nextInt(7) : 6;
        if (kind == 0) {
            say("not");
            return new Part("not", 0, unit(within + 1));
        }
        if (kind == 1) {
            say("[");
            Part all = truth(within + 1);
            say("]");
            return all;
        }
        Part left = sum(within);
        String sign = new String[] {"=", "<", ">"}[random.nextInt(3)];
        say(sign);
        return new Part(sign, 0, left, sum(within));
    }

    private Part sum(int within) {
        Part all = term(within);
        for (int i = 0; i < 3 && random.nextInt(3) == 0; i++) {
            String sign = random.nextBoolean() ? "+" : "-";
            say(sign);
            all = new Part(sign, 0, all, term(within));
        }
        return all;
    }

    private Part term(int within) {
        Part all = atom(within);
        for (int i = 0; i < 4 && random.nextInt(5) == 0; i++) {
            say("*");
            all = new Part("*", 0, all, atom(within));
        }
        return all;
    }

    private Part atom(int within) {
        int kind = within < 6 ? random.nextInt(9) : 8;
        if (kind == 0) {
            say("(");
            Part all = sum(within + 1);
            say(")");
            return all;
        }
        if (kind < 3) {
            say("if");
            Part truth = truth(within + 1);
            say("then");
            Part then = sum(within + 1);
            say("else");
            Part other = sum(within + 1);
            say("end");
            return new Part("if", 0, truth, then, other);
        }
        if (random.nextInt(3) == 0) {
            int n = random.nextInt(8) == 0 ? random.nextInt(1000) : random.nextInt(5);
            say("" + n);
            return new Part("n", n);
        }
        int name = random.nextInt(6);
        say(NAMES[name]);
        return new Part("name", name);
    }
}
