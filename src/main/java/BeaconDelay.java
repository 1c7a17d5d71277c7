import java.util.Arrays;

/**
 * A coast of hills with stacks of wood, told as a text, with its nights, its fog and its laws.
 *
 * <p>How all stands in a night (STACKS and who TOOK) is one number, a "standing": its decimal
 * digit h is 2 * the STACK of HILL h, and 1 more if its man TOOK in the night ahead. So there are
 * at most 10,000 of them, and rows can be kept by them.
 */
public final class BeaconDelay {
    public static final int NONE = -1;

    private static final int NO_SUCH = -2;
    private static final int NO_SUCH_AMOUNT = -3;
    private static final int TOO_MANY = -4;
    private static final int NOT_NOW = -5;
    private static final int TRAY_MISSING = -6;
    private static final int NO_SUCH_PLACE = -7;
    private static final int WHY_NOT = -10;
    private static final int TEXT_FAULT = -30;

    private static final int MOST_BYTES = 900;
    private static final int MOST_HILLS = 4;
    private static final int MOST_VILLAGES = 4;
    private static final int MOST_ROADS = 8;
    private static final int MOST_WITHIN = 6;
    private static final int HIGHEST = 4;
    private static final int WEATHERS = 10;
    private static final int DEEDS = 4;
    private static final int TRAYS = 4;
    private static final int IMAGES = 2;
    private static final int MOST_NUMBERS = 40;
    private static final int MOST_UNDONE = 10;
    private static final int MOST_TOLD = 8;
    private static final int FAR_ABOVE = 1_000_000;

    private static final int NO_SUCH_WHY = 1;
    private static final int BARE_WHY = 2;

    private static final int[] POWER = {1, 10, 100, 1000, 10000};
    // By how many HILLS there are, what can be by ROWS at most: what is now, and behind a NIGHT of the
    // first HILL a digit for each STACK it had, of the others nine (who TOOK has not all 4).
    private static final int[] MOST_MET = {1, 6, 46, 406, 3646};

    // The codes of a law's steps; what is less than NAMES is a number itself.
    private static final int NAMES = 1000;
    private static final int HILL_NAME = 1000;
    private static final int STACK_NAME = 1001;
    private static final int WEST_NAME = 1002;
    private static final int SEEN_NAME = 1003;
    private static final int FEAR_NAME = 1004;
    private static final int WEATHER_NAME = 1005;
    private static final int SIGNS = 1006;
    private static final int PLUS = 1006;
    private static final int MINUS = 1007;
    private static final int TIMES = 1008;
    private static final int EQUAL = 1009;
    private static final int LESS = 1010;
    private static final int MORE = 1011;
    private static final int AND = 1012;
    private static final int OR = 1013;
    private static final int NOT = 1014;
    private static final int CHOOSE = 1015;

    private final byte[] tape = new byte[MOST_BYTES];
    private int tapeLength;
    private final Coast coast = new Coast();
    private final Reader reader = new Reader(tape);
    private final Laws laws = new Laws(coast);
    private final Calm calm = new Calm();
    private final Past past = new Past();
    private final Tray[] trays = new Tray[TRAYS];
    private final Image[] images = new Image[IMAGES];
    private final int[] standingBy = new int[WEATHERS];
    private Ways ways;
    private Forcing forcing;
    private int standing;
    private int weather;
    private int nights;

    public BeaconDelay() {
        for (int i = 0; i < TRAYS; i++) {
            trays[i] = new Tray();
        }
        for (int i = 0; i < IMAGES; i++) {
            images[i] = new Image();
        }
    }

    // ---- the coast

    public int feed(int a, int b, int c, int d, int e) {
        if (tapeLength + 20 > MOST_BYTES) {
            return NOT_NOW;
        }
        putOnTape(a);
        putOnTape(b);
        putOnTape(c);
        putOnTape(d);
        putOnTape(e);
        return tapeLength;
    }

    private void putOnTape(int four) {
        for (int shift = 24; shift >= 0; shift -= 8) {
            tape[tapeLength] = (byte) (four >>> shift);
            tapeLength++;
        }
    }

    public int coast(int n) {
        if (n < 0 || n > tapeLength) {
            return NO_SUCH_AMOUNT;
        }
        tapeLength = 0;
        reader.read(n);
        if (reader.fault != 0) {
            return TEXT_FAULT - reader.fault;
        }
        Coast told = reader.told;
        goOnFrom(told, told.firstStanding, told.firstWeather, 0);
        return coast.lines;
    }

    /** Another coast: what was found out by the laws of the one before holds no more. */
    private void goOnFrom(Coast told, int toldStanding, int toldWeather, int toldNights) {
        coast.becomeLike(told);
        laws.forget();
        if (ways != null) {
            ways.forget();
        }
        standing = toldStanding;
        weather = toldWeather;
        nights = toldNights;
        past.count = 0;
    }

    public int fault(int what) {
        return what == 0 ? reader.fault : what == 1 ? reader.faultPlace : NONE;
    }

    public int hill(int h, int what) {
        if (!isHill(h)) {
            return NO_SUCH;
        }
        switch (what) {
            case 0:
                return stackIn(standing, h);
            case 1:
                return coast.fear[h];
            case 2:
                return tookIn(standing, h);
            case 3:
                return coast.gap[h];
            default:
                return NO_SUCH;
        }
    }

    public int village(int v) {
        return v < 0 || v >= coast.villages ? NO_SUCH : coast.needs[v];
    }

    public int takes(int deed, int h) {
        if (!isHill(h)) {
            return NO_SUCH;
        }
        return isNight(deed) ? tookIn(laws.behind(standing, weather, deed), h) : NOT_NOW;
    }

    public int by(int deed, int h) {
        if (!isHill(h)) {
            return NO_SUCH;
        }
        return isNight(deed) ? stackIn(laws.behind(standing, weather, deed), h) : NOT_NOW;
    }

    private boolean isHill(int h) {
        return h >= 0 && h < coast.hills;
    }

    private boolean isNight(long deed) {
        return deed == 0 || deed > 0 && deed < coast.hills;
    }

    private static int stackIn(int standing, int h) {
        return standing / POWER[h] % 10 / 2;
    }

    private static int tookIn(int standing, int h) {
        return standing / POWER[h] % 2;
    }

    private static int stacksTogether(int standing) {
        int sum = 0;
        for (int h = 0; h < MOST_HILLS; h++) {
            sum += stackIn(standing, h);
        }
        return sum;
    }

    private static int tookBits(int standing) {
        int bits = 0;
        for (int h = 0; h < MOST_HILLS; h++) {
            bits |= tookIn(standing, h) << h;
        }
        return bits;
    }

    private static int stacksAlone(int standing) {
        int alone = standing;
        for (int h = 0; h < MOST_HILLS; h++) {
            alone -= tookIn(standing, h) * POWER[h];
        }
        return alone;
    }

    // ---- deeds

    public int night(int deed) {
        if (!isNight(deed)) {
            return WHY_NOT - NO_SUCH_WHY;
        }
        past.keep(standing, weather, nights);
        tryDeed(deed);
        return tookBits(standing);
    }

    public int nights(int n) {
        if (n < 1 || n > 99) {
            return NO_SUCH_AMOUNT;
        }
        past.keep(standing, weather, nights);
        for (int i = 0; i < n; i++) {
            tryDeed(0);
        }
        return tookBits(standing);
    }

    public int steal(int h) {
        int why = whyNoStealing(h);
        if (why != 0) {
            return WHY_NOT - why;
        }
        past.keep(standing, weather, nights);
        takeByHand(h);
        return stackIn(standing, h);
    }

    public int weather(int n) {
        if (n < 0 || n >= WEATHERS) {
            return WHY_NOT - NO_SUCH_WHY;
        }
        past.keep(standing, weather, nights);
        int before = weather;
        weather = n;
        return before;
    }

    public int undo(int n) {
        if (n < 1 || n > MOST_UNDONE || n > past.count) {
            return NO_SUCH_AMOUNT;
        }
        past.count -= n;
        bringBack(past.standing[past.count], past.weather[past.count], past.nights[past.count]);
        return past.count;
    }

    private void bringBack(int toldStanding, int toldWeather, int toldNights) {
        standing = toldStanding;
        weather = toldWeather;
        nights = toldNights;
    }

    private int whyNoStealing(int h) {
        if (!isHill(h)) {
            return NO_SUCH_WHY;
        }
        return stackIn(standing, h) == 0 ? BARE_WHY : 0;
    }

    private void takeByHand(int h) {
        int digit = stackIn(standing, h) * 2 + tookIn(standing, h);
        int less = (stackIn(standing, h) - 1) * 2 + 1;
        standing += (less - digit) * POWER[h];
    }

    /** Does a DEED told as a number; answers why not, or 0. */
    private int tryDeed(long deed) {
        if (deed >= 10 && deed <= 19) {
            int why = whyNoStealing((int) deed - 10);
            if (why == 0) {
                takeByHand((int) deed - 10);
            }
            return why;
        }
        if (deed >= 20 && deed <= 29) {
            weather = (int) deed - 20;
            return 0;
        }
        if (!isNight(deed)) {
            return NO_SUCH_WHY;
        }
        standing = laws.behind(standing, weather, (int) deed);
        nights++;
        return 0;
    }

    private int tryAll(Tray tray) {
        int done = 0;
        while (done < tray.count && tryDeed(tray.numbers[done]) == 0) {
            done++;
        }
        return done;
    }

    public int judge(int tray, int what) {
        if (!isTray(tray) || what < 0 || what > 3) {
            return NO_SUCH;
        }
        Tray told = trays[tray];
        if (told.isMissing()) {
            return TRAY_MISSING;
        }
        int standingNow = standing;
        int weatherNow = weather;
        int nightsNow = nights;
        int done = tryAll(told);
        boolean all = done == told.count;
        // A DEED that can't be changes nothing, so it may be tried once more to hear why.
        int why = all ? 0 : tryDeed(told.numbers[done]);
        int standingThen = standing;
        bringBack(standingNow, weatherNow, nightsNow);
        switch (what) {
            case 0:
                return all ? NONE : done;
            case 1:
                return why;
            case 2:
                return stacksTogether(standingThen);
            default:
                return tookBits(standingThen);
        }
    }

    public int perform(int tray) {
        if (!isTray(tray)) {
            return NO_SUCH;
        }
        if (trays[tray].isMissing()) {
            return TRAY_MISSING;
        }
        int standingNow = standing;
        int weatherNow = weather;
        int nightsNow = nights;
        int done = tryAll(trays[tray]);
        if (done > 0) {
            past.keep(standingNow, weatherNow, nightsNow);
        }
        return done;
    }

    public int century(int seed, int times) {
        if (times < 1 || times > 40) {
            return NO_SUCH_AMOUNT;
        }
        int standingNow = standing;
        int weatherNow = weather;
        int nightsNow = nights;
        int done = 0;
        int x = seed;
        for (int i = 0; i < times; i++) {
            x = drawnFrom(x);
            int kind = (x >>> 16) % 6;
            int deed = 0;
            if (kind > 2) {
                x = drawnFrom(x);
                deed = drawnDeed(kind, x >>> 16);
            }
            if (tryDeed(deed) == 0) {
                done++;
            }
        }
        if (done > 0) {
            past.keep(standingNow, weatherNow, nightsNow);
        }
        return done;
    }

    private static int drawnFrom(int x) {
        return 1103515245 * x + 12345;
    }

    private static int drawnDeed(int kind, int draw) {
        return kind == 3 ? draw % 4 : kind == 4 ? 10 + draw % 4 : 20 + draw % 10;
    }

    // ---- calm

    public int lies(int h, int n) {
        if (!isHill(h)) {
            return NO_SUCH;
        }
        if (n < 0 || n > 99_999) {
            return NO_SUCH_AMOUNT;
        }
        calm.follow(laws, standing, weather);
        int less = n;
        if (n > calm.tail && calm.period > 0) {
            less = calm.tail + (n - calm.tail) % calm.period;
        }
        int then = standing;
        for (int i = 0; i < less; i++) {
            then = laws.behind(then, weather, 0);
        }
        return stackIn(then, h);
    }

    public int round(int what) {
        if (what != 0 && what != 1) {
            return NO_SUCH;
        }
        calm.follow(laws, standing, weather);
        return what == 0 ? calm.tail : calm.period;
    }

    public int bare() {
        calm.follow(laws, standing, weather);
        int then = standing;
        for (int i = 0; i < calm.tail + calm.period; i++) {
            if (stacksTogether(then) == 0) {
                return i;
            }
            then = laws.behind(then, weather, 0);
        }
        return NONE;
    }

    public int rests() {
        return laws.howManyStay(weather);
    }

    // ---- with fog

    /** What can be by ROWS of so many NIGHTS from now on; kept till something else is now. */
    private Ways waysFromNow(int howMany) {
        if (ways == null || ways.mostHills < coast.hills) {
            ways = new Ways(laws, coast.hills);
        }
        ways.begin(coast.hills, standing, weather);
        ways.reachTo(howMany);
        return ways;
    }

    private static boolean isHeight(int k) {
        return k >= 0 && k <= HIGHEST;
    }

    public int soonest(int h, int k) {
        if (!isHill(h)) {
            return NO_SUCH;
        }
        if (!isHeight(k)) {
            return NO_SUCH_AMOUNT;
        }
        Ways from = waysFromNow(0);
        int place = from.firstWith(h, k);
        return place < 0 ? NONE : from.level[place];
    }

    public int way(int h, int k, int i) {
        if (!isHill(h)) {
            return NO_SUCH;
        }
        if (!isHeight(k) || i < 0) {
            return NO_SUCH_AMOUNT;
        }
        Ways from = waysFromNow(0);
        int place = from.firstWith(h, k);
        return place < 0 ? NONE : from.deedTowards(place, i);
    }

    public long rows(int h, int k, int n) {
        if (!isHill(h)) {
            return NO_SUCH;
        }
        if (!isHeight(k) || n < 0 || n > 12) {
            return NO_SUCH_AMOUNT;
        }
        Ways from = waysFromNow(n);
        from.spread(n, 1);
        return from.weightOf(h, k, k);
    }

    public int keeps(int k) {
        return isHeight(k) ? waysFromNow(FAR_ABOVE).longestAbove(k) : NO_SUCH_AMOUNT;
    }

    public int reaches(int h, int what) {
        if (!isHill(h) || what != 0 && what != 1) {
            return NO_SUCH;
        }
        Ways from = waysFromNow(FAR_ABOVE);
        int best = stackIn(standing, h);
        for (int i = 0; i < from.count; i++) {
            int stack = stackIn(from.met[i], h);
            best = what == 0 ? Math.max(best, stack) : Math.min(best, stack);
        }
        return best;
    }

    public int stands() {
        return waysFromNow(FAR_ABOVE).count;
    }

    // ---- light, wood

    public int lit(int h) {
        return isHill(h) ? litBy(h) : NO_SUCH;
    }

    /** In a line light comes no farther than to the first HILL that isn't LIT, on either side. */
    private int litBy(int h) {
        if (stackIn(standing, h) == 0) {
            return 0;
        }
        int bits = 1 << h;
        for (int i = h; i + 1 < coast.hills && isSeen(i, i + 1, coast.gap[i + 1]); i++) {
            bits |= 1 << i + 1;
        }
        for (int i = h; i > 0 && isSeen(i, i - 1, coast.gap[i]); i--) {
            bits |= 1 << i - 1;
        }
        return bits;
    }

    private boolean isSeen(int from, int to, int gap) {
        return gap <= stackIn(standing, from) && stackIn(standing, to) > 0;
    }

    public int brightest() {
        int best = NONE;
        int most = NONE;
        for (int h = 0; h < coast.hills; h++) {
            int lights = Integer.bitCount(litBy(h));
            if (lights > most) {
                most = lights;
                best = h;
            }
        }
        return best;
    }

    public int wood() {
        return woodWithout(NONE);
    }

    public int needed() {
        int all = woodWithout(NONE);
        int bits = 0;
        for (int r = 0; r < coast.roads; r++) {
            if (woodWithout(r) < all) {
                bits |= 1 << r;
            }
        }
        return bits;
    }

    /** As much as the narrowest cut lets through: some HILLS are cut at their stacks, of the others the roads or the needs. */
    private int woodWithout(int road) {
        int least = FAR_ABOVE;
        for (int open = 0; open < 1 << coast.hills; open++) {
            int cut = 0;
            for (int h = 0; h < coast.hills; h++) {
                cut += (open >> h & 1) == 1 ? 0 : stackIn(standing, h);
            }
            for (int v = 0; v < coast.villages; v++) {
                cut += Math.min(coast.needs[v], coast.carriedTo(v, open, road));
            }
            least = Math.min(least, cut);
        }
        return least;
    }

    // ---- high

    /** The code by which a call about told heights is refused, or 0. */
    private int refusalOfTold(int tray, int h, int least) {
        if (!isTray(tray) || !isHill(h)) {
            return NO_SUCH;
        }
        Tray told = trays[tray];
        if (told.isMissing()) {
            return TRAY_MISSING;
        }
        if (told.count < 1 || told.count > MOST_TOLD) {
            return TOO_MANY;
        }
        for (int i = 0; i < told.count; i++) {
            if (told.numbers[i] < least || told.numbers[i] > HIGHEST) {
                return NO_SUCH_AMOUNT;
            }
        }
        return 0;
    }

    public long high(int tray, int h) {
        int refusal = refusalOfTold(tray, h, NONE);
        if (refusal != 0) {
            return refusal;
        }
        Ways from = waysFromNow(trays[tray].count);
        from.spreadAsTold(trays[tray], h);
        return from.weightOf(h, 0, HIGHEST);
    }

    public int highBy(int tray, int h, int i) {
        int refusal = refusalOfTold(tray, h, NONE);
        if (refusal != 0) {
            return refusal;
        }
        if (i < 0) {
            return NO_SUCH_AMOUNT;
        }
        if (i >= trays[tray].count) {
            return NONE;
        }
        Ways from = waysFromNow(trays[tray].count);
        from.traceTold(trays[tray], h);
        return from.firstTraced(i);
    }

    public int fogs(int tray, int h, int i) {
        int refusal = refusalOfTold(tray, h, NONE);
        if (refusal != 0) {
            return refusal;
        }
        if (i < 0) {
            return NO_SUCH_AMOUNT;
        }
        if (i >= trays[tray].count) {
            return NO_SUCH_PLACE;
        }
        Ways from = waysFromNow(trays[tray].count);
        from.traceTold(trays[tray], h);
        return from.allTraced(i);
    }

    public int weathers(int tray, int h) {
        int refusal = refusalOfTold(tray, h, 0);
        return refusal != 0 ? refusal : fittingWeathers(trays[tray], h);
    }

    /** WEATHERS that fit what is told, as bits; how all stands behind it by each is kept for attempt(). */
    private int fittingWeathers(Tray told, int h) {
        int bits = 0;
        for (int w = 0; w < WEATHERS; w++) {
            int then = standing;
            int fitting = 0;
            while (fitting < told.count) {
                then = laws.behind(then, w, 0);
                if (stackIn(then, h) != told.numbers[fitting]) {
                    break;
                }
                fitting++;
            }
            standingBy[w] = then;
            if (fitting == told.count) {
                bits |= 1 << w;
            }
        }
        return bits;
    }

    public int attempt(int tray, int h) {
        int refusal = refusalOfTold(tray, h, 0);
        if (refusal != 0) {
            return refusal;
        }
        int fitting = fittingWeathers(trays[tray], h);
        if (fitting == 0) {
            return NONE;
        }
        int best = 0;
        int least = FAR_ABOVE;
        for (int deed = 0; deed < coast.hills; deed++) {
            int most = mostAlike(fitting, deed);
            if (most < least) {
                least = most;
                best = deed;
            }
        }
        return best;
    }

    private int mostAlike(int fitting, int deed) {
        int most = 0;
        for (int w = 0; w < WEATHERS; w++) {
            if ((fitting >> w & 1) == 1) {
                most = Math.max(most, alikeWith(w, fitting, deed));
            }
        }
        return most;
    }

    private int alikeWith(int w, int fitting, int deed) {
        int stacks = stacksAlone(laws.behind(standingBy[w], w, deed));
        int alike = 0;
        for (int other = 0; other < WEATHERS; other++) {
            if ((fitting >> other & 1) == 1
                    && stacksAlone(laws.behind(standingBy[other], other, deed)) == stacks) {
                alike++;
            }
        }
        return alike;
    }

    // ---- by turns

    private Forcing forcingFrom(Ways from) {
        if (forcing == null || forcing.size < from.size) {
            forcing = new Forcing(from.size);
        }
        return forcing;
    }

    public int forces(int h, int k) {
        if (!isHill(h)) {
            return NO_SUCH;
        }
        if (!isHeight(k)) {
            return NO_SUCH_AMOUNT;
        }
        Ways from = waysFromNow(FAR_ABOVE);
        return forcingFrom(from).fewest(from, h, k);
    }

    public int best(int h, int k) {
        if (!isHill(h)) {
            return NO_SUCH;
        }
        if (!isHeight(k)) {
            return NO_SUCH_AMOUNT;
        }
        Ways from = waysFromNow(FAR_ABOVE);
        Forcing found = forcingFrom(from);
        int fewest = found.fewest(from, h, k);
        return fewest <= 0 ? NONE : found.firstDeed(from, fewest);
    }

    // ---- chances

    public int chance(int h, int k, int n, int what) {
        if (!isHill(h) || what != 0 && what != 1) {
            return NO_SUCH;
        }
        if (!isHeight(k) || n < 0 || n > 7) {
            return NO_SUCH_AMOUNT;
        }
        Ways from = waysFromNow(n);
        from.spreadByLots(n);
        return inLowestTerms(from.weightOf(h, k, HIGHEST), n, what);
    }

    public int mean(int n, int what) {
        if (what != 0 && what != 1) {
            return NO_SUCH;
        }
        if (n < 0 || n > 7) {
            return NO_SUCH_AMOUNT;
        }
        Ways from = waysFromNow(n);
        from.spreadByLots(n);
        int sum = 0;
        for (int i = 0; i < from.count; i++) {
            if (from.weight[i] != 0) {
                sum += from.weight[i] * stacksTogether(from.met[i]);
            }
        }
        return inLowestTerms(sum, n, what);
    }

    private static int inLowestTerms(int above, int n, int what) {
        int below = 1;
        for (int i = 0; i < n; i++) {
            below *= 10;
        }
        int common = greatestCommon(above, below);
        if (common == 0) {
            return NONE;
        }
        return what == 0 ? above / common : below / common;
    }

    private static int greatestCommon(int a, int b) {
        int greater = a;
        int less = b;
        for (int i = 0; i < 100 && less != 0; i++) {
            int rest = greater % less;
            greater = less;
            less = rest;
        }
        return greater;
    }

    // ---- trays, images

    private static boolean isTray(int tray) {
        return tray >= 0 && tray < TRAYS;
    }

    public int numbers(int tray, int sort, int n) {
        if (!isTray(tray) || sort < 0 || sort > 3) {
            return NO_SUCH;
        }
        if (n < 0 || n > MOST_NUMBERS) {
            return NO_SUCH_AMOUNT;
        }
        trays[tray].begin(sort, n);
        return 0;
    }

    public long write(int tray, int i, long v) {
        if (!isTray(tray)) {
            return NO_SUCH;
        }
        Tray told = trays[tray];
        if (told.isMissing()) {
            return TRAY_MISSING;
        }
        if (i < 0 || i >= told.count) {
            return NO_SUCH_PLACE;
        }
        told.numbers[i] = told.cut(v);
        return told.numbers[i];
    }

    public int lists(int tray, int h) {
        if (!isTray(tray) || !isHill(h)) {
            return NO_SUCH;
        }
        Tray told = trays[tray];
        if (told.isMissing()) {
            return TRAY_MISSING;
        }
        int then = standing;
        for (int i = 0; i < told.count; i++) {
            then = laws.behind(then, weather, 0);
            told.numbers[i] = stackIn(then, h);
        }
        return told.count;
    }

    private static boolean isImage(int i) {
        return i >= 0 && i < IMAGES;
    }

    public int image(int i) {
        if (!isImage(i)) {
            return NO_SUCH;
        }
        Image made = images[i];
        made.coast.becomeLike(coast);
        made.standing = standing;
        made.weather = weather;
        made.nights = nights;
        made.isMade = true;
        return 0;
    }

    public int restore(int i) {
        if (!isImage(i)) {
            return NO_SUCH;
        }
        Image made = images[i];
        if (!made.isMade) {
            return NOT_NOW;
        }
        goOnFrom(made.coast, made.standing, made.weather, made.nights);
        return 0;
    }

    public int count(int what) {
        switch (what) {
            case 0:
                return coast.hills;
            case 1:
                return coast.villages;
            case 2:
                return coast.roads;
            case 3:
                return weather;
            case 4:
                return stacksTogether(standing);
            case 5:
                return tookBits(standing);
            case 6:
                return nights;
            case 7:
                return past.count;
            case 8:
                return tapeLength;
            case 9:
                return coast.lines;
            default:
                return NONE;
        }
    }

    /** What a text tells. Both laws stand in one row of steps, each step behind what it works on. */
    private static final class Coast {
        int lines;
        int hills;
        int villages;
        int roads;
        int firstStanding;
        int firstWeather;
        final int[] fear = new int[MOST_HILLS];
        final int[] gap = new int[MOST_HILLS];
        final int[] needs = new int[MOST_VILLAGES];
        final int[] roadFrom = new int[MOST_ROADS];
        final int[] roadTo = new int[MOST_ROADS];
        final int[] carries = new int[MOST_ROADS];
        final int[] steps = new int[MOST_BYTES];
        int stepCount;
        // A law without steps isn't told.
        int takesBegin;
        int takesEnd;
        int addsBegin;
        int addsEnd;

        void becomeEmpty() {
            lines = 0;
            hills = 0;
            villages = 0;
            roads = 0;
            firstStanding = 0;
            firstWeather = 0;
            stepCount = 0;
            takesBegin = 0;
            takesEnd = 0;
            addsBegin = 0;
            addsEnd = 0;
        }

        void becomeLike(Coast other) {
            lines = other.lines;
            hills = other.hills;
            villages = other.villages;
            roads = other.roads;
            firstStanding = other.firstStanding;
            firstWeather = other.firstWeather;
            System.arraycopy(other.fear, 0, fear, 0, MOST_HILLS);
            System.arraycopy(other.gap, 0, gap, 0, MOST_HILLS);
            System.arraycopy(other.needs, 0, needs, 0, MOST_VILLAGES);
            System.arraycopy(other.roadFrom, 0, roadFrom, 0, MOST_ROADS);
            System.arraycopy(other.roadTo, 0, roadTo, 0, MOST_ROADS);
            System.arraycopy(other.carries, 0, carries, 0, MOST_ROADS);
            System.arraycopy(other.steps, 0, steps, 0, other.stepCount);
            stepCount = other.stepCount;
            takesBegin = other.takesBegin;
            takesEnd = other.takesEnd;
            addsBegin = other.addsBegin;
            addsEnd = other.addsEnd;
        }

        /** What all roads but one can carry to a VILLAGE from the HILLS told as bits. */
        int carriedTo(int v, int fromHills, int without) {
            int sum = 0;
            for (int r = 0; r < roads; r++) {
                if (r != without && roadTo[r] == v && (fromHills >> roadFrom[r] & 1) == 1) {
                    sum += carries[r];
                }
            }
            return sum;
        }
    }

    /**
     * Reads a text, token by token, and stops at its first fault: from then on no token is like
     * any word or sign, so all that is still being read comes to its end by itself.
     */
    private static final class Reader {
        private static final int END = 0;
        private static final int WORD = 1;
        private static final int NUMBER = 2;
        private static final int SIGN = 3;
        private static final int STOPPED = 4;
        private static final String ALL_SIGNS = ";:+-*()[]=<>";

        final Coast told = new Coast();
        int fault;
        int faultPlace = NONE;
        private final byte[] text;
        private int length;
        private int kind;
        private int place;
        private int end;
        private int value;

        Reader(byte[] text) {
            this.text = text;
        }

        void read(int n) {
            length = Math.max(0, Math.min(n, text.length));
            fault = 0;
            faultPlace = NONE;
            kind = END;
            end = 0;
            told.becomeEmpty();
            step();
            expect("coast");
            expect("weather");
            told.firstWeather = numberUpTo(9);
            expect(";");
            told.lines = 1;
            for (int i = 0; i < MOST_BYTES && fault == 0 && kind != END; i++) {
                line();
                expect(";");
                told.lines++;
            }
        }

        private void line() {
            if (at("hill")) {
                hillLine();
            } else if (at("village")) {
                villageLine();
            } else if (at("road")) {
                roadLine();
            } else if (at("takes")) {
                takesLine();
            } else if (at("adds")) {
                addsLine();
            } else {
                fail(2);
            }
        }

        private void hillLine() {
            int h = told.hills;
            if (h >= MOST_HILLS) {
                fail(4);
                return;
            }
            step();
            expect("stack");
            int stack = numberUpTo(HIGHEST);
            expect("fear");
            told.fear[h] = numberUpTo(9);
            told.gap[h] = 1;
            int took = 0;
            for (int i = 0; i < MOST_BYTES && (at("gap") || at("took")); i++) {
                if (at("took")) {
                    took = 1;
                    step();
                } else {
                    step();
                    told.gap[h] = numberUpTo(9);
                }
            }
            told.firstStanding += (stack * 2 + took) * POWER[h];
            told.hills++;
        }

        private void villageLine() {
            int v = told.villages;
            if (v >= MOST_VILLAGES) {
                fail(4);
                return;
            }
            step();
            expect("needs");
            told.needs[v] = numberUpTo(9);
            told.villages++;
        }

        private void roadLine() {
            int r = told.roads;
            if (r >= MOST_ROADS) {
                fail(4);
                return;
            }
            step();
            told.roadFrom[r] = numberUpTo(told.hills - 1);
            told.roadTo[r] = numberUpTo(told.villages - 1);
            expect("carries");
            told.carries[r] = numberUpTo(9);
            told.roads++;
        }

        private void takesLine() {
            step();
            expect(":");
            told.takesBegin = told.stepCount;
            truth(0);
            told.takesEnd = told.stepCount;
        }

        private void addsLine() {
            step();
            expect(":");
            told.addsBegin = told.stepCount;
            sum(0);
            told.addsEnd = told.stepCount;
        }

        private void truth(int within) {
            both(within);
            for (int i = 0; i < MOST_BYTES && at("or"); i++) {
                step();
                both(within);
                put(OR);
            }
        }

        private void both(int within) {
            unit(within);
            for (int i = 0; i < MOST_BYTES && at("and"); i++) {
                step();
                unit(within);
                put(AND);
            }
        }

        private void unit(int within) {
            boolean isNot = at("not");
            if ((isNot || at("[")) && within >= MOST_WITHIN) {
                fail(4);
            } else if (isNot) {
                step();
                unit(within + 1);
                put(NOT);
            } else if (at("[")) {
                step();
                truth(within + 1);
                expect("]");
            } else {
                sum(within);
                int code = at("=") ? EQUAL : at("<") ? LESS : MORE;
                if (code == MORE) {
                    expect(">");
                } else {
                    step();
                }
                sum(within);
                put(code);
            }
        }

        private void sum(int within) {
            term(within);
            for (int i = 0; i < MOST_BYTES && (at("+") || at("-")); i++) {
                int code = at("+") ? PLUS : MINUS;
                step();
                term(within);
                put(code);
            }
        }

        private void term(int within) {
            atom(within);
            for (int i = 0; i < MOST_BYTES && at("*"); i++) {
                step();
                atom(within);
                put(TIMES);
            }
        }

        private void atom(int within) {
            if (kind == NUMBER) {
                put(value);
                step();
                return;
            }
            boolean isIf = at("if");
            if ((isIf || at("(")) && within >= MOST_WITHIN) {
                fail(4);
            } else if (isIf) {
                step();
                truth(within + 1);
                expect("then");
                sum(within + 1);
                expect("else");
                sum(within + 1);
                expect("end");
                put(CHOOSE);
            } else if (at("(")) {
                step();
                sum(within + 1);
                expect(")");
            } else {
                name();
            }
        }

        private void name() {
            int code = at("hill") ? HILL_NAME
                    : at("stack") ? STACK_NAME
                    : at("west") ? WEST_NAME
                    : at("seen") ? SEEN_NAME
                    : at("fear") ? FEAR_NAME
                    : at("weather") ? WEATHER_NAME : NONE;
            if (code == NONE) {
                fail(2);
            } else {
                put(code);
                step();
            }
        }

        /** A law has no more steps than its text has bytes, so the row is long enough. */
        private void put(int code) {
            if (fault == 0 && told.stepCount < MOST_BYTES) {
                told.steps[told.stepCount] = code;
                told.stepCount++;
            }
        }

        private boolean at(String wanted) {
            if (kind != WORD && kind != SIGN || wanted.length() != end - place) {
                return false;
            }
            for (int i = 0; i < wanted.length(); i++) {
                if (text[place + i] != wanted.charAt(i)) {
                    return false;
                }
            }
            return true;
        }

        private void expect(String wanted) {
            if (at(wanted)) {
                step();
            } else {
                fail(2);
            }
        }

        private int numberUpTo(int most) {
            if (kind != NUMBER) {
                fail(2);
                return 0;
            }
            if (value > most) {
                fail(3);
                return 0;
            }
            int found = value;
            step();
            return found;
        }

        private void fail(int which) {
            if (fault == 0) {
                fault = which;
                faultPlace = place;
                kind = STOPPED;
            }
        }

        /** Goes on to the next token. */
        private void step() {
            if (kind == STOPPED) {
                return;
            }
            place = end;
            while (place < length && (text[place] == 10 || text[place] == 32)) {
                place++;
            }
            end = place;
            if (place >= length) {
                kind = END;
            } else if (text[place] >= 'a' && text[place] <= 'z') {
                kind = WORD;
                end = endOfRun('a', 'z');
            } else if (text[place] >= '0' && text[place] <= '9') {
                kind = NUMBER;
                end = endOfRun('0', '9');
                if (end - place > 3) {
                    fail(1);
                } else {
                    value = valueOfRun();
                }
            } else if (ALL_SIGNS.indexOf((char) (text[place] & 255)) >= 0) {
                kind = SIGN;
                end = place + 1;
            } else {
                fail(1);
            }
        }

        private int endOfRun(char low, char high) {
            int at = place;
            while (at < length && text[at] >= low && text[at] <= high) {
                at++;
            }
            return at;
        }

        private int valueOfRun() {
            int sum = 0;
            for (int i = place; i < end; i++) {
                sum = sum * 10 + text[i] - '0';
            }
            return sum;
        }
    }

    /** The laws of a coast at work. What they tell of one HILL hangs on few numbers, so it is kept by them. */
    private static final class Laws {
        private static final int FARTHEST = 1_000_000;
        // Within one another each of seven levels holds at most five values that wait.
        private static final int MOST_WAITING = 64;

        private final Coast coast;
        // By weather, hill, stack, west, seen: 1 more than the digit of the hill behind a night; 0: not known.
        private final int[] known = new int[WEATHERS * MOST_HILLS * 50];
        private final int[] named = new int[SIGNS - NAMES];
        private final int[] waiting = new int[MOST_WAITING];
        private final int[] staying = new int[10];
        private final int[] stayingEast = new int[10];

        Laws(Coast coast) {
            this.coast = coast;
        }

        void forget() {
            Arrays.fill(known, 0);
        }

        /** How all stands behind a NIGHT. */
        int behind(int standing, int weather, int deed) {
            int all = 0;
            int west = 0;
            for (int h = 0; h < coast.hills; h++) {
                int digit = standing / POWER[h] % 10;
                int seen = h == deed ? 0 : west % 2;
                all += digitBehind(weather, h, digit / 2, west / 2, seen) * POWER[h];
                west = digit;
            }
            return all;
        }

        int digitBehind(int weather, int h, int stack, int west, int seen) {
            int place = (weather * MOST_HILLS + h) * 50 + stack * 10 + west * 2 + seen;
            if (place < 0 || place >= known.length) {
                return 0;
            }
            if (known[place] == 0) {
                named[HILL_NAME - NAMES] = h;
                named[STACK_NAME - NAMES] = stack;
                named[WEST_NAME - NAMES] = west;
                named[SEEN_NAME - NAMES] = seen;
                named[FEAR_NAME - NAMES] = coast.fear[h];
                named[WEATHER_NAME - NAMES] = weather;
                known[place] = 1 + workOutDigit(stack, seen);
            }
            return known[place] - 1;
        }

        private int workOutDigit(int stack, int seen) {
            int taken = seen;
            if (coast.takesEnd > coast.takesBegin) {
                taken = workOut(coast.takesBegin, coast.takesEnd);
            }
            if (taken != 0) {
                return Math.max(0, stack - 1) * 2 + 1;
            }
            int added = stack + 1;
            if (coast.addsEnd > coast.addsBegin) {
                added = workOut(coast.addsBegin, coast.addsEnd);
            }
            return Math.max(0, Math.min(HIGHEST, added)) * 2;
        }

        private int workOut(int begin, int end) {
            int top = 0;
            for (int i = begin; i < end; i++) {
                int code = coast.steps[i];
                if (code < SIGNS) {
                    if (top >= MOST_WAITING) {
                        return 0;
                    }
                    waiting[top] = code < NAMES ? code : named[code - NAMES];
                    top++;
                } else if (code == NOT && top >= 1) {
                    waiting[top - 1] = 1 - waiting[top - 1];
                } else if (code == CHOOSE && top >= 3) {
                    top -= 2;
                    waiting[top - 1] = waiting[top - 1] != 0 ? waiting[top] : waiting[top + 1];
                } else if (top >= 2) {
                    top--;
                    waiting[top - 1] = joined(code, waiting[top - 1], waiting[top]);
                }
            }
            return waiting[0];
        }

        /** Truths are 1 and 0, far within what sums are kept to. */
        private static int joined(int code, long a, long b) {
            long v;
            switch (code) {
                case PLUS:
                    v = a + b;
                    break;
                case MINUS:
                    v = a - b;
                    break;
                case TIMES:
                    v = a * b;
                    break;
                case EQUAL:
                    v = a == b ? 1 : 0;
                    break;
                case LESS:
                    v = a < b ? 1 : 0;
                    break;
                case MORE:
                    v = a > b ? 1 : 0;
                    break;
                case AND:
                    v = a & b;
                    break;
                default:
                    v = a | b;
                    break;
            }
            return (int) (v > FARTHEST ? FARTHEST : v < -FARTHEST ? -FARTHEST : v);
        }

        /** A HILL hangs on the one west of it alone, so ways to stay are counted HILL by HILL. */
        int howManyStay(int weather) {
            Arrays.fill(staying, 0);
            staying[0] = 1;
            int sum = 1;
            for (int h = 0; h < coast.hills; h++) {
                Arrays.fill(stayingEast, 0);
                sum = 0;
                for (int i = 0; i < 100; i++) {
                    int west = i / 10;
                    int digit = i % 10;
                    if (staying[west] != 0
                            && digitBehind(weather, h, digit / 2, west / 2, west % 2) == digit) {
                        stayingEast[digit] += staying[west];
                        sum += staying[west];
                    }
                }
                System.arraycopy(stayingEast, 0, staying, 0, 10);
            }
            return sum;
        }
    }

    /** How all goes by CALM: some nights that never come again, then a round. */
    private static final class Calm {
        int tail;
        int period;

        /** Brent's way: it needs no row of what has been. */
        void follow(Laws laws, int standing, int weather) {
            int kept = standing;
            int goes = laws.behind(standing, weather, 0);
            int reach = 1;
            period = 1;
            for (int i = 0; i < FAR_ABOVE && kept != goes; i++) {
                if (period == reach) {
                    kept = goes;
                    reach *= 2;
                    period = 0;
                }
                goes = laws.behind(goes, weather, 0);
                period++;
            }
            int ahead = standing;
            for (int i = 0; i < period; i++) {
                ahead = laws.behind(ahead, weather, 0);
            }
            int later = standing;
            tail = 0;
            for (int i = 0; i < FAR_ABOVE && later != ahead; i++) {
                later = laws.behind(later, weather, 0);
                ahead = laws.behind(ahead, weather, 0);
                tail++;
            }
        }
    }

    /**
     * What can be by ROWS from one standing on. Standings are numbered as they are met, level by
     * level and DEEDS in their order, so the first way to one is also the first of like ROWS.
     */
    private static final class Ways {
        final int mostHills;
        final int size;
        final int[] met;
        final int[] level;
        int[] weight;
        int count;
        int deeds;
        private final Laws laws;
        private final int[] numberOf;
        private final int[] from;
        private final int[] next;
        private final int[] queue;
        private final int[] shift = new int[DEEDS];
        private int[] weightThen;
        private int hills;
        private int weather;
        private int opened;

        Ways(Laws laws, int mostHills) {
            this.laws = laws;
            this.mostHills = mostHills;
            size = MOST_MET[mostHills];
            met = new int[size];
            level = new int[size];
            numberOf = new int[POWER[mostHills]];
            from = new int[size];
            next = new int[size * DEEDS];
            queue = new int[size];
            weight = new int[size];
            weightThen = new int[size];
        }

        void forget() {
            for (int i = 0; i < count; i++) {
                numberOf[met[i]] = 0;
            }
            count = 0;
            opened = 0;
        }

        void begin(int hillCount, int standing, int weatherNow) {
            if (count > 0 && met[0] == standing && weather == weatherNow) {
                return;
            }
            forget();
            hills = hillCount;
            deeds = Math.max(1, hillCount);
            weather = weatherNow;
            meet(standing, 0, 0, 0);
        }

        private int meet(int standing, int by, int deed, int atLevel) {
            if (standing < 0 || standing >= numberOf.length) {
                return 0;
            }
            if (numberOf[standing] == 0 && count < size) {
                met[count] = standing;
                from[count] = by * DEEDS + deed;
                level[count] = atLevel;
                count++;
                numberOf[standing] = count;
            }
            return Math.max(0, numberOf[standing] - 1);
        }

        /** Meets all that stands behind at most so many NIGHTS. */
        void reachTo(int nights) {
            for (int i = opened; i < size && i < count && level[i] < nights; i++) {
                open(i);
            }
        }

        /** FOG changes but the HILL east of it, so each NIGHT is the one without FOG, shifted. */
        private void open(int number) {
            int standing = met[number];
            int clear = 0;
            int west = 0;
            for (int h = 0; h < hills; h++) {
                int digit = standing / POWER[h] % 10;
                int seen = west % 2;
                int then = laws.digitBehind(weather, h, digit / 2, west / 2, seen);
                int foggy = then;
                if (seen == 1) {
                    foggy = laws.digitBehind(weather, h, digit / 2, west / 2, 0);
                }
                clear += then * POWER[h];
                shift[h] = (foggy - then) * POWER[h];
                west = digit;
            }
            shift[0] = 0;
            for (int deed = 0; deed < deeds; deed++) {
                next[number * DEEDS + deed] = meet(clear + shift[deed], number, deed, level[number] + 1);
            }
            opened = number + 1;
        }

        int behind(int number, int deed) {
            return next[number * DEEDS + deed];
        }

        int firstWith(int h, int k) {
            for (int i = 0; i < size && i < count; i++) {
                if (stackIn(met[i], h) == k) {
                    return i;
                }
                if (i == opened) {
                    open(i);
                }
            }
            return NONE;
        }

        int deedTowards(int number, int i) {
            if (i >= level[number]) {
                return NONE;
            }
            int at = number;
            for (int back = level[number] - 1; back > i; back--) {
                at = from[at] / DEEDS;
            }
            return from[at] % DEEDS;
        }

        /** How many ROWS of so many NIGHTS come to each, the DEED 0 counting for as many as told. */
        void spread(int nights, int forCalm) {
            beginSpread();
            for (int n = 0; n < nights; n++) {
                spreadOneNight(n, forCalm);
            }
        }

        /** Of ten lots all that bring no FOG count for the DEED 0. */
        void spreadByLots(int nights) {
            spread(nights, 11 - deeds);
        }

        void spreadAsTold(Tray told, int h) {
            beginSpread();
            for (int n = 0; n < told.count; n++) {
                spreadOneNight(n, 1);
                for (int i = 0; i < count; i++) {
                    if (!isAsTold(i, h, told.numbers[n])) {
                        weight[i] = 0;
                    }
                }
            }
        }

        private void beginSpread() {
            Arrays.fill(weight, 0, count, 0);
            weight[0] = 1;
        }

        private void spreadOneNight(int n, int forCalm) {
            Arrays.fill(weightThen, 0, count, 0);
            for (int i = 0; i < opened && level[i] <= n; i++) {
                if (weight[i] != 0) {
                    weightThen[behind(i, 0)] += weight[i] * forCalm;
                    for (int deed = 1; deed < deeds; deed++) {
                        weightThen[behind(i, deed)] += weight[i];
                    }
                }
            }
            int[] before = weight;
            weight = weightThen;
            weightThen = before;
        }

        int weightOf(int h, int least, int most) {
            int sum = 0;
            for (int i = 0; i < count; i++) {
                if (weight[i] != 0) {
                    int stack = stackIn(met[i], h);
                    sum += stack >= least && stack <= most ? weight[i] : 0;
                }
            }
            return sum;
        }

        private boolean isAsTold(int number, int h, long told) {
            return told == NONE || stackIn(met[number], h) == told;
        }

        /** Weights become bits: bit n, if it stands so behind n NIGHTS of some ROW that is as told to its end. */
        void traceTold(Tray told, int h) {
            beginSpread();
            for (int n = 0; n < told.count; n++) {
                for (int i = 0; i < opened && level[i] <= n; i++) {
                    for (int deed = 0; deed < deeds && hasBit(i, n); deed++) {
                        if (isAsTold(behind(i, deed), h, told.numbers[n])) {
                            weight[behind(i, deed)] |= 1 << n + 1;
                        }
                    }
                }
            }
            for (int n = told.count - 1; n >= 0; n--) {
                for (int i = 0; i < opened && level[i] <= n; i++) {
                    if (hasBit(i, n) && firstDeedOn(i, n) == NONE) {
                        weight[i] -= 1 << n;
                    }
                }
            }
        }

        private boolean hasBit(int number, int n) {
            return (weight[number] >> n & 1) == 1;
        }

        private int firstDeedOn(int number, int n) {
            for (int deed = 0; deed < deeds; deed++) {
                if (hasBit(behind(number, deed), n + 1)) {
                    return deed;
                }
            }
            return NONE;
        }

        int firstTraced(int night) {
            int at = 0;
            int deed = NONE;
            for (int n = 0; n <= night; n++) {
                deed = hasBit(at, n) ? firstDeedOn(at, n) : NONE;
                if (deed == NONE) {
                    return NONE;
                }
                at = behind(at, deed);
            }
            return deed;
        }

        int allTraced(int night) {
            int bits = 0;
            for (int i = 0; i < opened && level[i] <= night; i++) {
                for (int deed = 0; deed < deeds && hasBit(i, night); deed++) {
                    if (hasBit(behind(i, deed), night + 1)) {
                        bits |= 1 << deed;
                    }
                }
            }
            return bits;
        }

        private boolean isAbove(int number, int k) {
            for (int h = 0; h < hills; h++) {
                if (stackIn(met[number], h) < k) {
                    return false;
                }
            }
            return true;
        }

        /** The longest way on which all STACKS are so high; NONE: a way comes back to where it was. */
        int longestAbove(int k) {
            reachTo(FAR_ABOVE);
            int all = countComersAbove(k);
            int longest = 0;
            int left = 0;
            int waiting = weight[0] == 0 ? 1 : 0;
            queue[0] = 0;
            while (left < waiting && left < size) {
                int at = queue[left];
                left++;
                longest = Math.max(longest, weightThen[at]);
                for (int deed = 0; deed < deeds; deed++) {
                    int to = behind(at, deed);
                    if (isAbove(to, k)) {
                        weightThen[to] = Math.max(weightThen[to], weightThen[at] + 1);
                        weight[to]--;
                        if (weight[to] == 0 && waiting < size) {
                            queue[waiting] = to;
                            waiting++;
                        }
                    }
                }
            }
            return left < all ? NONE : longest;
        }

        /** Weights become: how many come to each; answers how many there are. */
        private int countComersAbove(int k) {
            Arrays.fill(weight, 0, count, 0);
            Arrays.fill(weightThen, 0, count, 0);
            queue[0] = 0;
            int waiting = 1;
            for (int i = 0; i < waiting && i < size; i++) {
                for (int deed = 0; deed < deeds; deed++) {
                    int to = behind(queue[i], deed);
                    if (isAbove(to, k)) {
                        if (weight[to] == 0 && to != 0 && waiting < size) {
                            queue[waiting] = to;
                            waiting++;
                        }
                        weight[to]++;
                    }
                }
            }
            return waiting;
        }
    }

    /**
     * Two by turns. A place is twice the number of a standing, and 1 more if it's the other one's
     * turn. From where it is so high it is looked back, NIGHT by NIGHT, at where that can be forced.
     */
    private static final class Forcing {
        final int size;
        // By place: within how many NIGHTS, NONE: not known to be.
        private final int[] within;
        // By standing: how many DEEDS of the other one aren't yet known to lead there.
        private final int[] free;
        private final int[] queue;
        // Of each standing, those from which a NIGHT leads to it: one row, begun at begins.
        private final int[] begins;
        private final int[] comers;
        private int waiting;

        Forcing(int size) {
            this.size = size;
            within = new int[size * 2];
            free = new int[size];
            queue = new int[size * 2];
            begins = new int[size + 1];
            comers = new int[size * DEEDS];
        }

        int fewest(Ways from, int h, int k) {
            sortComers(from);
            beginAt(from, h, k);
            for (int i = 0; i < queue.length && i < waiting && within[0] == NONE; i++) {
                lookBackFrom(queue[i]);
            }
            return within[0];
        }

        /** What is nearer than the start is all known when the start is. */
        int firstDeed(Ways from, int fewest) {
            for (int deed = 0; deed < from.deeds; deed++) {
                if (within[from.behind(0, deed) * 2 + 1] == fewest - 1) {
                    return deed;
                }
            }
            return NONE;
        }

        private void sortComers(Ways from) {
            Arrays.fill(begins, 0, from.count + 1, 0);
            for (int i = 0; i < from.count; i++) {
                for (int deed = 0; deed < from.deeds; deed++) {
                    begins[from.behind(i, deed)]++;
                }
            }
            for (int i = 1; i <= from.count; i++) {
                begins[i] += begins[i - 1];
            }
            for (int i = 0; i < from.count; i++) {
                for (int deed = 0; deed < from.deeds; deed++) {
                    int to = from.behind(i, deed);
                    begins[to]--;
                    comers[begins[to]] = i;
                }
            }
        }

        private void beginAt(Ways from, int h, int k) {
            waiting = 0;
            for (int i = 0; i < from.count; i++) {
                boolean isSo = stackIn(from.met[i], h) == k;
                within[i * 2] = NONE;
                within[i * 2 + 1] = NONE;
                free[i] = from.deeds;
                if (isSo) {
                    settle(i * 2, 0);
                    settle(i * 2 + 1, 0);
                }
            }
        }

        private void settle(int place, int nights) {
            within[place] = nights;
            queue[waiting] = place;
            waiting++;
        }

        /** The first one needs one DEED that leads there, of the other one all must. */
        private void lookBackFrom(int place) {
            int to = place / 2;
            int turn = 1 - place % 2;
            for (int i = begins[to]; i < begins[to + 1]; i++) {
                int at = comers[i];
                if (within[at * 2 + turn] == NONE) {
                    if (turn == 1) {
                        free[at]--;
                    }
                    if (turn == 0 || free[at] == 0) {
                        settle(at * 2 + turn, within[place] + 1);
                    }
                }
            }
        }
    }

    /** What calls can bring back by UNDOING, the eldest first. */
    private static final class Past {
        final int[] standing = new int[MOST_UNDONE];
        final int[] weather = new int[MOST_UNDONE];
        final int[] nights = new int[MOST_UNDONE];
        int count;

        void keep(int standingNow, int weatherNow, int nightsNow) {
            if (count == MOST_UNDONE) {
                forgetEldest(standing);
                forgetEldest(weather);
                forgetEldest(nights);
                count--;
            }
            standing[count] = standingNow;
            weather[count] = weatherNow;
            nights[count] = nightsNow;
            count++;
        }

        private static void forgetEldest(int[] row) {
            System.arraycopy(row, 1, row, 0, MOST_UNDONE - 1);
        }
    }

    /** Numbers of a sort. */
    private static final class Tray {
        final long[] numbers = new long[MOST_NUMBERS];
        int count = NONE;
        private int sort;

        boolean isMissing() {
            return count < 0;
        }

        void begin(int newSort, int n) {
            sort = newSort;
            count = n;
            Arrays.fill(numbers, 0L);
        }

        long cut(long v) {
            switch (sort) {
                case 0:
                    return (byte) v;
                case 1:
                    return (short) v;
                case 2:
                    return (int) v;
                default:
                    return v;
            }
        }
    }

    /** What restore() goes on from. */
    private static final class Image {
        final Coast coast = new Coast();
        int standing;
        int weather;
        int nights;
        boolean isMade;
    }
}
