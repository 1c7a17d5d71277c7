import java.util.function.Consumer;
import java.util.function.ToIntFunction;

/**
 * Each argument of each call at its bounds and on both sides of them, all of them together: which code
 * is told first, and that neither a refused call nor one that only looks changes anything.
 */
public final class RefusalsTest {
    private interface Call {
        long of(BeaconDelay x, int[] a);
    }

    private static final int MIN = Integer.MIN_VALUE;
    private static final int MAX = Integer.MAX_VALUE;
    private static final int FREE = 0;
    // Three HILLS, two VILLAGES; the second HILL is bare.
    private static final String COAST = "coast weather 3;hill stack 4 fear 1 took gap 7;hill stack 0 fear 2 gap 2;hill stack 2 fear 5 gap 4;"
            + "village needs 3;village needs 1;road 0 0 carries 2;road 2 1 carries 1;"
            + "takes:seen=1 or stack>3;adds:stack+1+if weather=5 then west else 0 end;";
    private static final String ON_THE_TAPE = "coast weather 8;hill stack 1 fear 1;";

    private static final int GOOD = 0;
    private static final int MISSING = 1;
    private static final int NINE = 2;
    private static final int NOT_KNOWN = 3;
    private static final int[] SIZES = {3, 0, 9, 2};

    private static final int[] TRAYS = {MIN, -1, GOOD, MISSING, NINE, NOT_KNOWN, 4, MAX};
    private static final int[] HILLS = around(0, 2);
    private static final int[] HEIGHTS = around(0, 4);

    private static Consumer<BeaconDelay> state = RefusalsTest::rich;

    public static void main(String[] args) {
        coast();
        deeds();
        calm();
        withFog();
        high();
        turnsAndChances();
        traysAndImages();
        otherTrays();
        withoutCoast();
        fullTape();
        Calls.end();
    }

    /** The least and the most that may be, their neighbours, and the ends of all ints. */
    private static int[] around(int low, int high) {
        return new int[] {MIN, low - 1, low, low + 1, high - 1, high, high + 1, MAX};
    }

    private static boolean out(int v, int low, int high) {
        return v < low || v > high;
    }

    private static boolean noTray(int t) {
        return out(t, 0, 3);
    }

    private static boolean noHill(int h) {
        return out(h, 0, 2);
    }

    private static boolean noHeight(int k) {
        return out(k, 0, 4);
    }

    /** Calls of all sorts have been: a past, both images, trays of each kind, a tape. */
    private static void rich(BeaconDelay x) {
        Calls.tell(x, "coast weather 6;hill stack 3 fear 3;");
        x.night(0);
        x.image(1);
        Calls.tell(x, "coast weather 11;");
        Calls.tell(x, COAST);
        x.weather(5);
        x.night(2);
        x.image(0);
        x.steal(2);
        x.undo(1);
        x.night(1);
        x.steal(0);
        while (x.hill(1, 0) > 0) {
            x.steal(1);
        }
        Calls.tray(x, GOOD, 4, 3, 0);
        Calls.tray(x, NINE, 1, 2, 10, 25, 9, 9, 9, 9, 9);
        Calls.tray(x, NOT_KNOWN, 0, 5);
        Calls.feedAll(x, ON_THE_TAPE.getBytes());
    }

    private static BeaconDelay made() {
        BeaconDelay x = new BeaconDelay();
        state.accept(x);
        return x;
    }

    /** A call that only looks: it changes nothing at all. */
    private static void looks(String name, Call call, ToIntFunction<int[]> due, int[]... candidates) {
        tryAll(name, call, due, true, candidates);
    }

    /** A call that does something, if it isn't refused. */
    private static void does(String name, Call call, ToIntFunction<int[]> due, int[]... candidates) {
        tryAll(name, call, due, false, candidates);
    }

    private static void tryAll(String name, Call call, ToIntFunction<int[]> due, boolean isLook, int[]... candidates) {
        String before = Fingerprint.of(made());
        int all = 1;
        for (int[] of : candidates) {
            all *= of.length;
        }
        int refused = 0;
        for (int n = 0; n < all; n++) {
            int[] a = new int[candidates.length];
            int rest = n;
            StringBuilder told = new StringBuilder(name);
            for (int i = 0; i < a.length; i++) {
                a[i] = candidates[i][rest % candidates[i].length];
                rest /= candidates[i].length;
                told.append(' ').append(a[i]);
            }
            int want = due.applyAsInt(a);
            BeaconDelay x = made();
            long got = call.of(x, a);
            if (want != FREE) {
                refused++;
                Calls.due(told.toString(), got, want);
            } else {
                Calls.holds(told + " is not refused, but answered " + got, got >= BeaconDelay.NONE);
            }
            if (want != FREE || isLook) {
                Calls.holds(told + " changes nothing", before.equals(Fingerprint.of(x)));
            }
        }
        Calls.holds(name + ": some are refused and some are not", refused > 0 && refused < all);
    }

    private static void coast() {
        Calls.promise("2 to 8, refused");
        does("coast", (x, a) -> x.coast(a[0]), a -> out(a[0], 0, 40) ? -3 : a[0] < 16 || a[0] > 16 && a[0] < 36 ? -32 : FREE, new int[] {MIN, -1, 16, 36, 37, 40, 41, MAX});
        looks("hill", (x, a) -> x.hill(a[0], a[1]), a -> noHill(a[0]) || out(a[1], 0, 3) ? -2 : FREE, HILLS, around(0, 3));
        looks("village", (x, a) -> x.village(a[0]), a -> out(a[0], 0, 1) ? -2 : FREE, around(0, 1));
        ToIntFunction<int[]> ofNight = a -> noHill(a[1]) ? -2 : out(a[0], 0, 2) ? -5 : FREE;
        int[] deeds = {MIN, -1, 0, 1, 2, 3, 4, 9, 10, 12, 19, 20, 29, 30, MAX};
        looks("takes", (x, a) -> x.takes(a[0], a[1]), ofNight, deeds, HILLS);
        looks("by", (x, a) -> x.by(a[0], a[1]), ofNight, deeds, HILLS);
    }

    private static void deeds() {
        Calls.promise("9 to 16, refused");
        does("night", (x, a) -> x.night(a[0]), a -> out(a[0], 0, 2) ? -11 : FREE, new int[] {MIN, -1, 0, 1, 2, 3, 4, 9, 10, 12, 20, 29, 30, MAX});
        does("nights", (x, a) -> x.nights(a[0]), a -> out(a[0], 1, 99) ? -3 : FREE, around(1, 99));
        does("steal", (x, a) -> x.steal(a[0]), a -> noHill(a[0]) ? -11 : a[0] == 1 ? -12 : FREE, HILLS);
        does("weather", (x, a) -> x.weather(a[0]), a -> out(a[0], 0, 9) ? -11 : FREE, around(0, 9));
        int past = made().count(7);
        Calls.holds("a past of some calls, " + past, past > 3 && past < 10);
        does("undo", (x, a) -> x.undo(a[0]), a -> out(a[0], 1, past) ? -3 : FREE, around(1, past));
        does("undo", (x, a) -> x.undo(a[0]), a -> out(a[0], 1, past) ? -3 : FREE, around(1, 10));
        ToIntFunction<int[]> ofTray = a -> noTray(a[0]) ? -2 : a[0] == MISSING ? -6 : FREE;
        looks("judge", (x, a) -> x.judge(a[0], a[1]), a -> noTray(a[0]) || out(a[1], 0, 3) ? -2 : a[0] == MISSING ? -6 : FREE, TRAYS, around(0, 3));
        does("perform", (x, a) -> x.perform(a[0]), ofTray, TRAYS);
        does("century", (x, a) -> x.century(a[0], a[1]), a -> out(a[1], 1, 40) ? -3 : FREE, new int[] {MIN, -1, 0, 1, MAX}, around(1, 40));
    }

    private static void calm() {
        Calls.promise("17 to 20, refused");
        looks("lies", (x, a) -> x.lies(a[0], a[1]), a -> noHill(a[0]) ? -2 : out(a[1], 0, 99999) ? -3 : FREE, HILLS, around(0, 99999));
        looks("round", (x, a) -> x.round(a[0]), a -> out(a[0], 0, 1) ? -2 : FREE, around(0, 1));
        onlyLooks("bare", (x, a) -> x.bare());
        onlyLooks("rests", (x, a) -> x.rests());
    }

    private static void onlyLooks(String name, Call call) {
        String before = Fingerprint.of(made());
        BeaconDelay x = made();
        Calls.holds(name, call.of(x, new int[0]) >= BeaconDelay.NONE);
        Calls.holds(name + " changes nothing", before.equals(Fingerprint.of(x)));
    }

    private static void withFog() {
        Calls.promise("21 to 30, refused");
        ToIntFunction<int[]> ofHeight = a -> noHill(a[0]) ? -2 : noHeight(a[1]) ? -3 : FREE;
        looks("soonest", (x, a) -> x.soonest(a[0], a[1]), ofHeight, HILLS, HEIGHTS);
        looks("way", (x, a) -> x.way(a[0], a[1], a[2]), a -> noHill(a[0]) ? -2 : noHeight(a[1]) || a[2] < 0 ? -3 : FREE,
                HILLS, HEIGHTS, new int[] {MIN, -1, 0, 1, MAX});
        looks("rows", (x, a) -> x.rows(a[0], a[1], a[2]), a -> noHill(a[0]) ? -2 : noHeight(a[1]) || out(a[2], 0, 12) ? -3 : FREE,
                HILLS, HEIGHTS, around(0, 12));
        looks("keeps", (x, a) -> x.keeps(a[0]), a -> noHeight(a[0]) ? -3 : FREE, HEIGHTS);
        looks("reaches", (x, a) -> x.reaches(a[0], a[1]), a -> noHill(a[0]) || out(a[1], 0, 1) ? -2 : FREE, HILLS, around(0, 1));
        onlyLooks("stands", (x, a) -> x.stands());
        looks("lit", (x, a) -> x.lit(a[0]), a -> noHill(a[0]) ? -2 : FREE, HILLS);
        onlyLooks("brightest", (x, a) -> x.brightest());
        onlyLooks("wood", (x, a) -> x.wood());
        onlyLooks("needed", (x, a) -> x.needed());
    }

    private static int ofHigh(int t, int h) {
        return noTray(t) || noHill(h) ? -2 : t == MISSING ? -6 : t == NINE ? -4 : t == NOT_KNOWN ? -3 : FREE;
    }

    private static int ofHighAt(int t, int h, int i) {
        int code = ofHigh(t, h);
        return code != FREE ? code : i < 0 ? -3 : FREE;
    }

    private static void high() {
        Calls.promise("31 to 35, refused");
        int[] places = {MIN, -1, 0, 2, 3, 9, MAX};
        looks("high", (x, a) -> x.high(a[0], a[1]), a -> ofHigh(a[0], a[1]), TRAYS, HILLS);
        looks("highBy", (x, a) -> x.highBy(a[0], a[1], a[2]), a -> ofHighAt(a[0], a[1], a[2]), TRAYS, HILLS, places);
        looks("fogs", (x, a) -> x.fogs(a[0], a[1], a[2]), a -> {
            int code = ofHighAt(a[0], a[1], a[2]);
            return code != FREE ? code : a[2] >= SIZES[GOOD] ? -7 : FREE;
        }, TRAYS, HILLS, places);
        looks("weathers", (x, a) -> x.weathers(a[0], a[1]), a -> ofHigh(a[0], a[1]), TRAYS, HILLS);
        looks("attempt", (x, a) -> x.attempt(a[0], a[1]), a -> ofHigh(a[0], a[1]), TRAYS, HILLS);
    }

    private static void turnsAndChances() {
        Calls.promise("36 to 39, refused");
        ToIntFunction<int[]> ofHeight = a -> noHill(a[0]) ? -2 : noHeight(a[1]) ? -3 : FREE;
        looks("forces", (x, a) -> x.forces(a[0], a[1]), ofHeight, HILLS, HEIGHTS);
        looks("best", (x, a) -> x.best(a[0], a[1]), ofHeight, HILLS, HEIGHTS);
        looks("chance", (x, a) -> x.chance(a[0], a[1], a[2], a[3]),
                a -> noHill(a[0]) || out(a[3], 0, 1) ? -2 : noHeight(a[1]) || out(a[2], 0, 7) ? -3 : FREE,
                HILLS, HEIGHTS, around(0, 7), new int[] {MIN, -1, 0, 1, 2, MAX});
        looks("mean", (x, a) -> x.mean(a[0], a[1]), a -> out(a[1], 0, 1) ? -2 : out(a[0], 0, 7) ? -3 : FREE, around(0, 7), around(0, 1));
    }

    private static void traysAndImages() {
        Calls.promise("40 to 44, refused");
        does("numbers", (x, a) -> x.numbers(a[0], a[1], a[2]), a -> noTray(a[0]) || out(a[1], 0, 3) ? -2 : out(a[2], 0, 40) ? -3 : FREE,
                TRAYS, around(0, 3), around(0, 40));
        does("write", (x, a) -> x.write(a[0], a[1], 4), a -> noTray(a[0]) ? -2 : a[0] == MISSING ? -6 : out(a[1], 0, SIZES[a[0]] - 1) ? -7 : FREE,
                TRAYS, new int[] {MIN, -1, 0, 1, 2, 3, 8, 9, 39, 40, MAX});
        does("lists", (x, a) -> x.lists(a[0], a[1]), a -> noTray(a[0]) || noHill(a[1]) ? -2 : a[0] == MISSING ? -6 : FREE, TRAYS, HILLS);
        does("image", (x, a) -> x.image(a[0]), a -> out(a[0], 0, 1) ? -2 : FREE, around(0, 1));
        does("restore", (x, a) -> x.restore(a[0]), a -> out(a[0], 0, 1) ? -2 : FREE, around(0, 1));
        state = x -> {
            Calls.tell(x, COAST);
            x.image(1);
            x.night(0);
        };
        does("restore", (x, a) -> x.restore(a[0]), a -> out(a[0], 0, 1) ? -2 : a[0] == 0 ? -5 : FREE, around(0, 1));
        state = x -> {
            Calls.tell(x, COAST);
            x.image(0);
            x.night(0);
        };
        does("restore", (x, a) -> x.restore(a[0]), a -> out(a[0], 0, 1) ? -2 : a[0] == 1 ? -5 : FREE, around(0, 1));
    }

    /** Trays that HIGH and CALM don't take: empty, just too long, with one number that can't be, wherever it stands. */
    private static void otherTrays() {
        Calls.promise("31 to 35, which trays");
        for (int n = 0; n <= 40; n++) {
            told(n, 0, 0, n < 1 || n > 8 ? -4 : FREE, n < 1 || n > 8 ? -4 : FREE);
        }
        for (int n = 1; n <= 9; n++) {
            for (int at = 0; at < n; at++) {
                int code = n > 8 ? -4 : -3;
                for (long bad : new long[] {5, -2, Long.MAX_VALUE, Long.MIN_VALUE, 1L << 32, (1L << 32) - 1, -(1L << 32)}) {
                    told(n, at, bad, code, code);
                }
                told(n, at, -1, n > 8 ? -4 : FREE, code);
                told(n, at, 0, n > 8 ? -4 : FREE, n > 8 ? -4 : FREE);
                told(n, at, 4, n > 8 ? -4 : FREE, n > 8 ? -4 : FREE);
            }
        }
    }

    private static void told(int n, int at, long v, int high, int calm) {
        BeaconDelay x = Calls.coastOf(COAST);
        x.numbers(0, 3, n);
        if (n > 0) {
            x.write(0, at, v);
        }
        String name = " of " + n + " numbers, at " + at + " " + v;
        is("high" + name, x.high(0, 1), high);
        is("highBy" + name, x.highBy(0, 1, 0), high);
        is("fogs" + name, x.fogs(0, 1, 0), high);
        is("weathers" + name, x.weathers(0, 1), calm);
        is("attempt" + name, x.attempt(0, 1), calm);
    }

    private static void is(String call, long got, int code) {
        if (code == FREE) {
            Calls.holds(call + " is not refused, but answered " + got, got >= BeaconDelay.NONE);
        } else {
            Calls.due(call, got, code);
        }
    }

    /** Without HILLS every call that tells one is refused, by the code that it tells first. */
    private static void withoutCoast() {
        Calls.promise("without a coast");
        state = x -> { };
        for (int h : new int[] {MIN, -1, 0, 1, 3, 4, MAX}) {
            BeaconDelay x = made();
            long[] all = {x.hill(h, 0), x.hill(h, 9), x.village(h), x.takes(0, h), x.takes(-1, h), x.by(0, h), x.by(1, h), x.lies(h, 0),
                x.lies(h, -1), x.soonest(h, 0), x.soonest(h, 9), x.way(h, 0, 0), x.way(h, 9, -1), x.rows(h, 0, 0), x.rows(h, 9, 99),
                x.reaches(h, 0), x.reaches(h, 1), x.lit(h), x.high(0, h), x.highBy(0, h, -1), x.fogs(0, h, -1), x.weathers(0, h),
                x.attempt(0, h), x.forces(h, 0), x.forces(h, 9), x.best(h, 0), x.best(h, 9), x.chance(h, 0, 0, 0), x.chance(h, 9, 9, 9),
                x.lists(0, h)};
            for (int i = 0; i < all.length; i++) {
                Calls.due("call " + i + " of hill " + h, all[i], -2);
            }
            Calls.due("steal " + h, x.steal(h), -11);
            Calls.due("nothing to be undone", x.count(7), 0);
        }
        does("night", (x, a) -> x.night(a[0]), a -> a[0] != 0 ? -11 : FREE, new int[] {MIN, -1, 0, 1, 9, 10, 20, MAX});
        allRefused("undo", (x, a) -> x.undo(a[0]), -3, MIN, -1, 0, 1, 2, 10, 11, MAX);
        allRefused("coast", (x, a) -> x.coast(a[0]), -3, MIN, -1, 1, 2, 20, 900, MAX);
        allRefused("restore", (x, a) -> x.restore(a[0]), -5, 0, 1);
        allRefused("restore", (x, a) -> x.restore(a[0]), -2, MIN, -1, 2, MAX);
        allRefused("perform", (x, a) -> x.perform(a[0]), -6, 0, 1, 2, 3);
        allRefused("perform", (x, a) -> x.perform(a[0]), -2, MIN, -1, 4, MAX);
        allRefused("write", (x, a) -> x.write(a[0], 0, 1), -6, 0, 1, 2, 3);
    }

    private static void allRefused(String name, Call call, int code, int... values) {
        String before = Fingerprint.of(made());
        for (int v : values) {
            BeaconDelay x = made();
            Calls.due(name + " " + v, call.of(x, new int[] {v}), code);
            Calls.holds(name + " " + v + " changes nothing", before.equals(Fingerprint.of(x)));
        }
    }

    private static void fullTape() {
        Calls.promise("2 feed, refused");
        for (int fed = 43; fed <= 45; fed++) {
            int many = fed;
            state = x -> {
                Calls.tell(x, COAST);
                for (int i = 0; i < many; i++) {
                    x.feed(0x636f6173, 0x74207765, 0x61746865, 0x7220313b, 0x20202020);
                }
            };
            String before = Fingerprint.of(made());
            BeaconDelay x = made();
            Calls.due("feed behind " + fed * 20, x.feed(0, 0, 0, 0, 0), fed == 45 ? -5 : fed * 20 + 20);
            Calls.due("bytes", x.count(8), Math.min(900, fed * 20 + 20));
            if (fed == 45) {
                Calls.holds("feed changes nothing", before.equals(Fingerprint.of(x)));
            }
        }
    }
}
