import java.util.Random;

/** Long runs of drawn calls, each answer compared with that of a model which tries all there is. */
public final class ModelTest {
    private static final int RUNS = 260;
    private static final int CALLS = 180;

    public static void main(String[] args) {
        int runs = args.length > 0 ? Integer.parseInt(args[0]) : RUNS;
        int first = args.length > 1 ? Integer.parseInt(args[1]) : 0;
        for (int seed = first; seed < first + runs && Calls.wrongSoFar() < 40; seed++) {
            Calls.promise("run by seed " + seed);
            new ModelTest(seed).run();
        }
        Calls.end();
    }

    private final Random random;
    private final BeaconDelay x = new BeaconDelay();
    private final Model m = new Model();

    private ModelTest(int seed) {
        random = new Random(seed);
    }

    private int upTo(int n) {
        return random.nextInt(n + 1);
    }

    /** Mostly 0 to n, now and then beyond. */
    private int about(int n) {
        return random.nextInt(12) == 0 ? random.nextInt(n + 6) - 3 : random.nextInt(n + 1);
    }

    private void run() {
        if (random.nextInt(30) != 0) {
            another();
        }
        for (int i = 0; i < CALLS; i++) {
            call();
        }
    }

    private void another() {
        CoastText text = new CoastText(random);
        Calls.due("coast " + text.text, Calls.tell(x, text.text), text.lines);
        m.become(text);
    }

    private void due(String call, long got, long want) {
        Calls.due(call + " of " + m.text(), got, want);
    }

    private int someHill() {
        return m.hills() == 0 ? about(3) : about(m.hills() - 1);
    }

    private void call() {
        int h = someHill();
        int k = about(4);
        int t = about(3);
        int i = about(4);
        int what = about(2);
        switch (random.nextInt(46)) {
            case 0: if (random.nextInt(6) == 0) { another(); } break;
            case 1: due("hill " + h + " " + i, x.hill(h, i), m.hill(h, i)); break;
            case 2: due("village " + i, x.village(i), m.village(i)); break;
            case 3: due("takes " + i + " " + h, x.takes(i, h), m.takes(i, h)); break;
            case 4: due("by " + i + " " + h, x.by(i, h), m.by(i, h)); break;
            case 5: case 6: due("night " + i, x.night(i), m.night(i)); break;
            case 7: { int n = random.nextInt(3) == 0 ? about(105) : about(4); due("nights " + n, x.nights(n), m.nights(n)); break; }
            case 8: case 9: due("steal " + h, x.steal(h), m.steal(h)); break;
            case 10: { int n = about(9); due("weather " + n, x.weather(n), m.weather(n)); break; }
            case 11: { int n = about(3); due("undo " + n, x.undo(n), m.undo(n)); break; }
            case 12: deeds(t); due("judge " + t + " " + i, x.judge(t, i), m.judge(t, i)); break;
            case 13: deeds(t); due("perform " + t, x.perform(t), m.perform(t)); break;
            case 14: { int seed = random.nextInt(); int n = about(40); due("century " + seed + " " + n, x.century(seed, n), m.century(seed, n)); break; }
            case 15: { int n = random.nextInt(4) == 0 ? about(99999) : about(20); due("lies " + h + " " + n, x.lies(h, n), m.lies(h, n)); break; }
            case 16: due("round " + what, x.round(what), m.round(what)); break;
            case 17: due("bare", x.bare(), m.bare()); break;
            case 18: due("rests", x.rests(), m.rests()); break;
            case 19: due("soonest " + h + " " + k, x.soonest(h, k), m.soonest(h, k)); break;
            case 20: case 21: due("way " + h + " " + k + " " + i, x.way(h, k, i), m.way(h, k, i)); break;
            case 22: { int n = about(12); due("rows " + h + " " + k + " " + n, x.rows(h, k, n), m.rows(h, k, n)); break; }
            case 23: due("keeps " + k, x.keeps(k), m.keeps(k)); break;
            case 24: due("reaches " + h + " " + what, x.reaches(h, what), m.reaches(h, what)); break;
            case 25: due("stands", x.stands(), m.stands()); break;
            case 26: due("lit " + h, x.lit(h), m.lit(h)); break;
            case 27: due("brightest", x.brightest(), m.brightest()); break;
            case 28: due("wood", x.wood(), m.wood()); break;
            case 29: due("needed", x.needed(), m.needed()); break;
            case 30: told(t, h); due("high " + t + " " + h, x.high(t, h), m.high(t, h)); break;
            case 31: told(t, h); due("highBy " + t + " " + h + " " + i, x.highBy(t, h, i), m.highBy(t, h, i)); break;
            case 32: told(t, h); due("fogs " + t + " " + h + " " + i, x.fogs(t, h, i), m.fogs(t, h, i)); break;
            case 33: told(t, h); due("weathers " + t + " " + h, x.weathers(t, h), m.weathers(t, h)); break;
            case 34: told(t, h); due("attempt " + t + " " + h, x.attempt(t, h), m.attempt(t, h)); break;
            case 35: due("forces " + h + " " + k, x.forces(h, k), m.forces(h, k)); break;
            case 36: due("best " + h + " " + k, x.best(h, k), m.best(h, k)); break;
            case 37: { int n = about(7); due("chance " + h + " " + k + " " + n + " " + what, x.chance(h, k, n, what), m.chance(h, k, n, what)); break; }
            case 38: { int n = about(7); due("mean " + n + " " + what, x.mean(n, what), m.mean(n, what)); break; }
            case 39: { int n = random.nextInt(3) == 0 ? about(41) : about(8); int sort = about(3); due("numbers", x.numbers(t, sort, n), m.numbers(t, sort, n)); break; }
            case 40: { long v = random.nextBoolean() ? random.nextLong() : about(4); due("write " + t + " " + i + " " + v, x.write(t, i, v), m.write(t, i, v)); break; }
            case 41: due("lists " + t + " " + h, x.lists(t, h), m.lists(t, h)); break;
            case 42: due("image " + what, x.image(what), m.image(what)); break;
            case 43: if (random.nextInt(3) == 0) { due("restore " + what, x.restore(what), m.restore(what)); } break;
            default:
                for (int c = -1; c <= 10; c++) {
                    if (c != 8) {
                        due("count " + c, x.count(c), m.count(c));
                    }
                }
                break;
        }
    }

    /** Mostly fills a tray with deeds that may be. */
    private void deeds(int t) {
        if (random.nextInt(5) == 0) {
            return;
        }
        int n = upTo(8);
        both(t, random.nextInt(4), n);
        for (int i = 0; i < n; i++) {
            int kind = random.nextInt(9);
            write(t, i, kind < 4 ? upTo(3) : kind < 6 ? 10 + upTo(3) : kind < 8 ? 20 + upTo(9) : random.nextInt(40) - 5);
        }
    }

    /** Mostly fills a tray with heights that were, by some row of nights. */
    private void told(int t, int h) {
        if (random.nextInt(6) == 0) {
            return;
        }
        int n = random.nextInt(10) == 0 ? upTo(9) : 1 + upTo(3);
        both(t, random.nextInt(4), n);
        boolean some = h >= 0 && h < m.hills();
        Model.State s = m.now;
        boolean isCalm = random.nextBoolean();
        int w = random.nextInt(3) == 0 ? random.nextInt(10) : m.weather;
        for (int i = 0; i < n; i++) {
            if (some) {
                s = m.after(s, w, isCalm ? 0 : random.nextInt(m.hills()));
            }
            int kind = random.nextInt(24);
            write(t, i, kind == 0 ? 5 : kind == 1 ? upTo(4) : kind < 6 && !isCalm ? -1 : some ? s.stack[h] : 0);
        }
    }

    private void both(int t, int sort, int n) {
        due("numbers", x.numbers(t, sort, n), m.numbers(t, sort, n));
    }

    private void write(int t, int i, long v) {
        due("write", x.write(t, i, v), m.write(t, i, v));
    }
}
