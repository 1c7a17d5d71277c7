import java.math.BigInteger;
import java.util.ArrayDeque;
import java.util.ArrayList;
import java.util.Arrays;
import java.util.Deque;
import java.util.HashMap;
import java.util.HashSet;
import java.util.LinkedHashMap;
import java.util.LinkedHashSet;
import java.util.List;
import java.util.Map;
import java.util.Set;

/** The document once more, written for no speed at all: all that can be is tried. */
final class Model {
    static final class State {
        final int[] stack;
        final int[] took;

        State(int[] stack, int[] took) {
            this.stack = stack;
            this.took = took;
        }

        @Override
        public boolean equals(Object o) {
            return o instanceof State s && Arrays.equals(stack, s.stack) && Arrays.equals(took, s.took);
        }

        @Override
        public int hashCode() {
            return Arrays.hashCode(stack) * 31 + Arrays.hashCode(took);
        }

        int sum() {
            return Arrays.stream(stack).sum();
        }

        int bits() {
            int bits = 0;
            for (int i = 0; i < took.length; i++) {
                bits += took[i] << i;
            }
            return bits;
        }
    }

    private record Moment(State state, int weather, int nights) {
    }

    private record Kept(CoastText coast, Moment moment) {
    }

    private CoastText coast = new CoastText();
    State now = new State(new int[0], new int[0]);
    int weather;
    private int nights;
    private final Deque<Moment> past = new ArrayDeque<>();
    private final long[][] trays = new long[4][];
    private final int[] sorts = new int[4];
    private final Kept[] images = new Kept[2];

    void become(CoastText text) {
        coast = text;
        int[] stack = new int[text.hills.size()];
        int[] took = new int[stack.length];
        for (int i = 0; i < stack.length; i++) {
            stack[i] = text.hills.get(i)[0];
            took[i] = text.hills.get(i)[3];
        }
        now = new State(stack, took);
        weather = text.weather;
        nights = 0;
        past.clear();
    }

    String text() {
        return coast.text;
    }

    int hills() {
        return coast.hills.size();
    }

    private boolean noHill(int h) {
        return h < 0 || h >= hills();
    }

    private boolean noNight(long deed) {
        return deed != 0 && (deed < 1 || deed > 9 || deed >= hills());
    }

    private int deeds() {
        return Math.max(1, hills());
    }

    State after(State s, int w, int fog) {
        int n = hills();
        int[] stack = new int[n];
        int[] took = new int[n];
        for (int h = 0; h < n; h++) {
            int west = h == 0 ? 0 : s.stack[h - 1];
            int seen = h > 0 && s.took[h - 1] == 1 && fog != h ? 1 : 0;
            long[] named = {h, s.stack[h], west, seen, coast.hills.get(h)[1], w};
            boolean takes = coast.takes == null ? seen == 1 : coast.takes.value(named) == 1;
            if (takes) {
                took[h] = 1;
                stack[h] = s.stack[h] == 0 ? 0 : s.stack[h] - 1;
            } else {
                long adds = coast.adds == null ? s.stack[h] + 1 : coast.adds.value(named);
                stack[h] = adds < 0 ? 0 : adds > 4 ? 4 : (int) adds;
            }
        }
        return new State(stack, took);
    }

    private State afterNow(State s, int fog) {
        return after(s, weather, fog);
    }

    int hill(int h, int what) {
        if (noHill(h) || what < 0 || what > 3) {
            return -2;
        }
        return new int[] {now.stack[h], coast.hills.get(h)[1], now.took[h], coast.hills.get(h)[2]}[what];
    }

    int village(int v) {
        return v < 0 || v >= coast.villages.size() ? -2 : coast.villages.get(v);
    }

    int takes(int deed, int h) {
        return noHill(h) ? -2 : noNight(deed) ? -5 : afterNow(now, deed).took[h];
    }

    int by(int deed, int h) {
        return noHill(h) ? -2 : noNight(deed) ? -5 : afterNow(now, deed).stack[h];
    }

    private Moment moment() {
        return new Moment(now, weather, nights);
    }

    private void back(Moment m) {
        now = m.state;
        weather = m.weather;
        nights = m.nights;
    }

    private void push(Moment m) {
        past.addLast(m);
        if (past.size() > 10) {
            past.removeFirst();
        }
    }

    private int deed(long v) {
        if (v >= 0 && v <= 9) {
            if (noNight(v)) {
                return 1;
            }
            now = afterNow(now, (int) v);
            nights++;
            return 0;
        }
        if (v >= 10 && v <= 19) {
            int h = (int) v - 10;
            if (noHill(h)) {
                return 1;
            }
            if (now.stack[h] == 0) {
                return 2;
            }
            int[] stack = now.stack.clone();
            int[] took = now.took.clone();
            stack[h]--;
            took[h] = 1;
            now = new State(stack, took);
            return 0;
        }
        if (v >= 20 && v <= 29) {
            weather = (int) v - 20;
            return 0;
        }
        return 1;
    }

    private int single(long v) {
        Moment m = moment();
        int why = deed(v);
        if (why == 0) {
            push(m);
        }
        return why;
    }

    int night(int deed) {
        if (noNight(deed)) {
            return -11;
        }
        single(deed);
        return now.bits();
    }

    int nights(int n) {
        if (n < 1 || n > 99) {
            return -3;
        }
        push(moment());
        for (int i = 0; i < n; i++) {
            deed(0);
        }
        return now.bits();
    }

    int steal(int h) {
        if (noHill(h)) {
            return -11;
        }
        return single(10 + h) == 2 ? -12 : now.stack[h];
    }

    int weather(int n) {
        int before = weather;
        if (n < 0 || n > 9) {
            return -11;
        }
        single(20 + n);
        return before;
    }

    int undo(int n) {
        if (n < 1 || n > 10 || n > past.size()) {
            return -3;
        }
        for (int i = 0; i < n; i++) {
            back(past.removeLast());
        }
        return past.size();
    }

    private boolean noTray(int t) {
        return t < 0 || t > 3;
    }

    int judge(int t, int what) {
        if (noTray(t) || what < 0 || what > 3) {
            return -2;
        }
        if (trays[t] == null) {
            return -6;
        }
        Moment m = moment();
        int place = -1;
        int why = 0;
        for (int i = 0; i < trays[t].length && place < 0; i++) {
            why = deed(trays[t][i]);
            if (why != 0) {
                place = i;
            }
        }
        int[] answers = {place, why, now.sum(), now.bits()};
        back(m);
        return answers[what];
    }

    int perform(int t) {
        if (noTray(t)) {
            return -2;
        }
        if (trays[t] == null) {
            return -6;
        }
        Moment m = moment();
        int done = 0;
        for (long v : trays[t]) {
            if (deed(v) != 0) {
                break;
            }
            done++;
        }
        if (done > 0) {
            push(m);
        }
        return done;
    }

    int century(int seed, int times) {
        if (times < 1 || times > 40) {
            return -3;
        }
        Moment m = moment();
        int[] x = {seed};
        int done = 0;
        for (int i = 0; i < times; i++) {
            int kind = draw(x) % 6;
            long v = kind < 3 ? 0 : kind == 3 ? draw(x) % 4 : kind == 4 ? 10 + draw(x) % 4 : 20 + draw(x) % 10;
            done += deed(v) == 0 ? 1 : 0;
        }
        if (done > 0) {
            push(m);
        }
        return done;
    }

    private static int draw(int[] x) {
        x[0] = 1103515245 * x[0] + 12345;
        return x[0] >>> 16;
    }

    private State calm(int n) {
        State s = now;
        for (int i = 0; i < n; i++) {
            s = afterNow(s, 0);
        }
        return s;
    }

    int lies(int h, int n) {
        return noHill(h) ? -2 : n < 0 || n > 99999 ? -3 : calm(n).stack[h];
    }

    int round(int what) {
        if (what < 0 || what > 1) {
            return -2;
        }
        Map<State, Integer> met = new HashMap<>();
        State s = now;
        int n = 0;
        while (!met.containsKey(s)) {
            met.put(s, n++);
            s = afterNow(s, 0);
        }
        return what == 0 ? met.get(s) : n - met.get(s);
    }

    int bare() {
        Set<State> met = new HashSet<>();
        State s = now;
        for (int n = 0; met.add(s); n++) {
            if (s.sum() == 0) {
                return n;
            }
            s = afterNow(s, 0);
        }
        return -1;
    }

    int rests() {
        int all = 1;
        for (int i = 0; i < hills(); i++) {
            all *= 10;
        }
        int found = 0;
        for (int i = 0; i < all; i++) {
            int[] stack = new int[hills()];
            int[] took = new int[hills()];
            int rest = i;
            for (int h = 0; h < stack.length; h++) {
                stack[h] = rest % 5;
                rest /= 5;
                took[h] = rest % 2;
                rest /= 2;
            }
            State s = new State(stack, took);
            found += afterNow(s, 0).equals(s) ? 1 : 0;
        }
        return found;
    }

    private final Map<State, State[]> nextOf = new HashMap<>();
    private State nextFrom;
    private int nextWeather;
    private CoastText nextCoast;

    /** Where each night leads, of all that can be from now on. */
    private Map<State, State[]> graph() {
        if (now.equals(nextFrom) && weather == nextWeather && coast == nextCoast) {
            return nextOf;
        }
        nextOf.clear();
        nextFrom = now;
        nextWeather = weather;
        nextCoast = coast;
        Deque<State> open = new ArrayDeque<>(List.of(now));
        while (!open.isEmpty()) {
            State s = open.removeLast();
            if (nextOf.containsKey(s)) {
                continue;
            }
            State[] next = new State[deeds()];
            for (int d = 0; d < next.length; d++) {
                next[d] = afterNow(s, d);
                open.addLast(next[d]);
            }
            nextOf.put(s, next);
        }
        return nextOf;
    }

    /** How many nights it needs from each on, as far as it can be: looked at again till nothing changes. */
    private Map<State, Integer> needs(int h, int k) {
        Map<State, Integer> far = new HashMap<>();
        for (State s : graph().keySet()) {
            if (s.stack[h] == k) {
                far.put(s, 0);
            }
        }
        for (int n = 1; ; n++) {
            List<State> found = new ArrayList<>();
            for (Map.Entry<State, State[]> e : graph().entrySet()) {
                if (!far.containsKey(e.getKey())) {
                    for (State to : e.getValue()) {
                        if (far.containsKey(to)) {
                            found.add(e.getKey());
                            break;
                        }
                    }
                }
            }
            if (found.isEmpty()) {
                return far;
            }
            for (State s : found) {
                far.put(s, n);
            }
        }
    }

    int soonest(int h, int k) {
        return noHill(h) ? -2 : k < 0 || k > 4 ? -3 : needs(h, k).getOrDefault(now, -1);
    }

    int way(int h, int k, int i) {
        if (noHill(h)) {
            return -2;
        }
        if (k < 0 || k > 4 || i < 0) {
            return -3;
        }
        Map<State, Integer> far = needs(h, k);
        if (!far.containsKey(now) || i >= far.get(now)) {
            return -1;
        }
        State s = now;
        for (int n = 0; ; n++) {
            for (int d = 0; ; d++) {
                State to = graph().get(s)[d];
                if (far.containsKey(to) && far.get(to) == far.get(s) - 1) {
                    if (n == i) {
                        return d;
                    }
                    s = to;
                    break;
                }
            }
        }
    }

    /** How many rows, weighed by how likely, lead to each. */
    private Map<State, BigInteger> spread(int n, int[] weights) {
        Map<State, BigInteger> all = new HashMap<>();
        all.put(now, BigInteger.ONE);
        for (int i = 0; i < n; i++) {
            Map<State, BigInteger> then = new HashMap<>();
            for (Map.Entry<State, BigInteger> e : all.entrySet()) {
                for (int d = 0; d < weights.length; d++) {
                    State to = afterNow(e.getKey(), noNight(d) ? 0 : d);
                    then.merge(to, e.getValue().multiply(BigInteger.valueOf(weights[d])), BigInteger::add);
                }
            }
            all = then;
        }
        return all;
    }

    private static int[] ones(int n) {
        int[] ones = new int[n];
        Arrays.fill(ones, 1);
        return ones;
    }

    long rows(int h, int k, int n) {
        if (noHill(h)) {
            return -2;
        }
        if (k < 0 || k > 4 || n < 0 || n > 12) {
            return -3;
        }
        BigInteger sum = BigInteger.ZERO;
        for (Map.Entry<State, BigInteger> e : spread(n, ones(deeds())).entrySet()) {
            if (e.getKey().stack[h] == k) {
                sum = sum.add(e.getValue());
            }
        }
        return sum.longValueExact();
    }

    int keeps(int k) {
        if (k < 0 || k > 4) {
            return -3;
        }
        Set<State> can = new LinkedHashSet<>(List.of(now));
        int most = graph().size() + 1;
        for (int n = 0; n <= most; n++) {
            Set<State> then = new LinkedHashSet<>();
            for (State s : can) {
                for (State to : graph().get(s)) {
                    if (Arrays.stream(to.stack).allMatch(v -> v >= k)) {
                        then.add(to);
                    }
                }
            }
            if (then.isEmpty()) {
                return n;
            }
            if (then.equals(can)) {
                return -1;
            }
            can = then;
        }
        return -1;
    }

    int reaches(int h, int what) {
        if (noHill(h) || what < 0 || what > 1) {
            return -2;
        }
        int[] all = graph().keySet().stream().mapToInt(s -> s.stack[h]).sorted().toArray();
        return what == 0 ? all[all.length - 1] : all[0];
    }

    int stands() {
        return graph().size();
    }

    int lit(int h) {
        if (noHill(h)) {
            return -2;
        }
        Set<Integer> lit = new HashSet<>();
        if (now.stack[h] > 0) {
            lit.add(h);
        }
        for (int round = 0; round < 8; round++) {
            for (int a : List.copyOf(lit)) {
                for (int b : new int[] {a - 1, a + 1}) {
                    if (!noHill(b) && now.stack[b] >= 1 && coast.hills.get(Math.max(a, b))[2] <= now.stack[a]) {
                        lit.add(b);
                    }
                }
            }
        }
        return lit.stream().mapToInt(v -> 1 << v).sum();
    }

    int brightest() {
        int best = -1;
        for (int h = 0; h < hills(); h++) {
            if (best < 0 || Integer.bitCount(lit(h)) > Integer.bitCount(lit(best))) {
                best = h;
            }
        }
        return best;
    }

    int wood() {
        return flow(-1);
    }

    int needed() {
        int bits = 0;
        for (int r = 0; r < coast.roads.size(); r++) {
            bits += flow(r) < flow(-1) ? 1 << r : 0;
        }
        return bits;
    }

    /** Ways with room are sought, a log at a time. */
    private int flow(int without) {
        int[][] room = new int[10][10];
        for (int h = 0; h < hills(); h++) {
            room[8][h] = now.stack[h];
        }
        for (int v = 0; v < coast.villages.size(); v++) {
            room[4 + v][9] = coast.villages.get(v);
        }
        for (int r = 0; r < coast.roads.size(); r++) {
            int[] road = coast.roads.get(r);
            if (r != without) {
                room[road[0]][4 + road[1]] += road[2];
            }
        }
        int sum = 0;
        while (push(room, 8, new boolean[10])) {
            sum++;
        }
        return sum;
    }

    private static boolean push(int[][] room, int at, boolean[] met) {
        if (at == 9) {
            return true;
        }
        met[at] = true;
        for (int to = 0; to < 10; to++) {
            if (!met[to] && room[at][to] > 0 && push(room, to, met)) {
                room[at][to]--;
                room[to][at]++;
                return true;
            }
        }
        return false;
    }

    private int refused(int t, int h, int least) {
        if (noTray(t) || noHill(h)) {
            return -2;
        }
        if (trays[t] == null) {
            return -6;
        }
        if (trays[t].length < 1 || trays[t].length > 8) {
            return -4;
        }
        for (long v : trays[t]) {
            if (v < least || v > 4) {
                return -3;
            }
        }
        return 0;
    }

    /** All rows that are as told, in their order. */
    private List<int[]> told(int t, int h) {
        List<int[]> found = new ArrayList<>();
        tell(t, h, now, new int[trays[t].length], 0, found);
        return found;
    }

    private void tell(int t, int h, State s, int[] row, int n, List<int[]> found) {
        if (n == row.length) {
            found.add(row.clone());
            return;
        }
        for (int d = 0; d < deeds(); d++) {
            State to = afterNow(s, d);
            if (trays[t][n] == -1 || to.stack[h] == trays[t][n]) {
                row[n] = d;
                tell(t, h, to, row, n + 1, found);
            }
        }
    }

    long high(int t, int h) {
        int code = refused(t, h, -1);
        return code != 0 ? code : told(t, h).size();
    }

    int highBy(int t, int h, int i) {
        int code = refused(t, h, -1);
        if (code != 0) {
            return code;
        }
        if (i < 0) {
            return -3;
        }
        List<int[]> rows = told(t, h);
        return rows.isEmpty() || i >= trays[t].length ? -1 : rows.get(0)[i];
    }

    int fogs(int t, int h, int i) {
        int code = refused(t, h, -1);
        if (code != 0) {
            return code;
        }
        if (i < 0) {
            return -3;
        }
        if (i >= trays[t].length) {
            return -7;
        }
        int bits = 0;
        for (int[] row : told(t, h)) {
            bits |= 1 << row[i];
        }
        return bits;
    }

    private Map<Integer, State> fitting(int t, int h) {
        Map<Integer, State> found = new LinkedHashMap<>();
        for (int w = 0; w < 10; w++) {
            State s = now;
            boolean fits = true;
            for (long v : trays[t]) {
                s = after(s, w, 0);
                fits &= s.stack[h] == v;
            }
            if (fits) {
                found.put(w, s);
            }
        }
        return found;
    }

    int weathers(int t, int h) {
        int code = refused(t, h, 0);
        return code != 0 ? code : fitting(t, h).keySet().stream().mapToInt(w -> 1 << w).sum();
    }

    int attempt(int t, int h) {
        int code = refused(t, h, 0);
        if (code != 0) {
            return code;
        }
        int best = -1;
        int least = 99;
        for (int d = 0; d < hills(); d++) {
            Map<String, Integer> groups = new HashMap<>();
            for (Map.Entry<Integer, State> e : fitting(t, h).entrySet()) {
                groups.merge(Arrays.toString(after(e.getValue(), e.getKey(), d).stack), 1, Integer::sum);
            }
            if (!groups.isEmpty()) {
                int most = groups.values().stream().mapToInt(v -> v).max().getAsInt();
                if (most < least) {
                    least = most;
                    best = d;
                }
            }
        }
        return best;
    }

    /** Within n nights, by whose turn it is: n is raised till nothing more can be forced. */
    private List<Map<State, Boolean>> forced(int h, int k) {
        List<Map<State, Boolean>> byNights = new ArrayList<>();
        Map<State, Boolean> first = new HashMap<>();
        Map<State, Boolean> other = new HashMap<>();
        for (State s : graph().keySet()) {
            first.put(s, s.stack[h] == k);
            other.put(s, s.stack[h] == k);
        }
        byNights.add(other);
        while (!first.get(now)) {
            Map<State, Boolean> firstThen = new HashMap<>();
            Map<State, Boolean> otherThen = new HashMap<>();
            for (Map.Entry<State, State[]> e : graph().entrySet()) {
                boolean is = e.getKey().stack[h] == k;
                Map<State, Boolean> before = other;
                Map<State, Boolean> beforeFirst = first;
                firstThen.put(e.getKey(), is || Arrays.stream(e.getValue()).anyMatch(before::get));
                otherThen.put(e.getKey(), is || Arrays.stream(e.getValue()).allMatch(beforeFirst::get));
            }
            if (firstThen.equals(first) && otherThen.equals(other)) {
                return null;
            }
            first = firstThen;
            other = otherThen;
            byNights.add(other);
        }
        return byNights;
    }

    int forces(int h, int k) {
        if (noHill(h)) {
            return -2;
        }
        if (k < 0 || k > 4) {
            return -3;
        }
        List<Map<State, Boolean>> byNights = forced(h, k);
        return byNights == null ? -1 : byNights.size() - 1;
    }

    int best(int h, int k) {
        int n = forces(h, k);
        if (n < -1) {
            return n;
        }
        if (n < 1) {
            return -1;
        }
        Map<State, Boolean> other = forced(h, k).get(n - 1);
        for (int d = 0; ; d++) {
            if (other.get(graph().get(now)[d])) {
                return d;
            }
        }
    }

    private static int fraction(BigInteger above, int n, int what) {
        BigInteger below = BigInteger.TEN.pow(n);
        BigInteger common = above.gcd(below);
        return (what == 0 ? above : below).divide(common).intValueExact();
    }

    int chance(int h, int k, int n, int what) {
        if (noHill(h) || what < 0 || what > 1) {
            return -2;
        }
        if (k < 0 || k > 4 || n < 0 || n > 7) {
            return -3;
        }
        BigInteger sum = BigInteger.ZERO;
        for (Map.Entry<State, BigInteger> e : spread(n, ones(10)).entrySet()) {
            if (e.getKey().stack[h] >= k) {
                sum = sum.add(e.getValue());
            }
        }
        return fraction(sum, n, what);
    }

    int mean(int n, int what) {
        if (what < 0 || what > 1) {
            return -2;
        }
        if (n < 0 || n > 7) {
            return -3;
        }
        BigInteger sum = BigInteger.ZERO;
        for (Map.Entry<State, BigInteger> e : spread(n, ones(10)).entrySet()) {
            sum = sum.add(e.getValue().multiply(BigInteger.valueOf(e.getKey().sum())));
        }
        return fraction(sum, n, what);
    }

    int numbers(int t, int sort, int n) {
        if (noTray(t) || sort < 0 || sort > 3) {
            return -2;
        }
        if (n < 0 || n > 40) {
            return -3;
        }
        trays[t] = new long[n];
        sorts[t] = sort;
        return 0;
    }

    long write(int t, int i, long v) {
        if (noTray(t)) {
            return -2;
        }
        if (trays[t] == null) {
            return -6;
        }
        if (i < 0 || i >= trays[t].length) {
            return -7;
        }
        int drop = 64 - (8 << sorts[t]);
        trays[t][i] = v << drop >> drop;
        return trays[t][i];
    }

    int lists(int t, int h) {
        if (noTray(t) || noHill(h)) {
            return -2;
        }
        if (trays[t] == null) {
            return -6;
        }
        for (int i = 0; i < trays[t].length; i++) {
            trays[t][i] = calm(i + 1).stack[h];
        }
        return trays[t].length;
    }

    int image(int i) {
        if (i < 0 || i > 1) {
            return -2;
        }
        images[i] = new Kept(coast, moment());
        return 0;
    }

    int restore(int i) {
        if (i < 0 || i > 1) {
            return -2;
        }
        if (images[i] == null) {
            return -5;
        }
        coast = images[i].coast;
        back(images[i].moment);
        past.clear();
        return 0;
    }

    int count(int what) {
        switch (what) {
            case 0: return hills();
            case 1: return coast.villages.size();
            case 2: return coast.roads.size();
            case 3: return weather;
            case 4: return now.sum();
            case 5: return now.bits();
            case 6: return nights;
            case 7: return past.size();
            case 9: return coast.lines;
            default: return -1;
        }
    }
}
