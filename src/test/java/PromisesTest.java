/** Each promise of the document by hand: ordinary calls, edges, refused calls. */
public final class PromisesTest {
    // No laws: a man takes if he saw the one west of him take.
    private static final String PLAIN = "coast weather 0;hill stack 4 fear 0 took;hill stack 4 fear 0;hill stack 4 fear 0;";
    private static final String SINKING = "coast weather 0;hill stack 4 fear 7;takes : 1 = 2;adds : stack - 1;";
    private static final String SWINGING = "coast weather 0;hill stack 0 fear 7;takes : stack = 4;adds : stack + 1;";
    private static final String ROADS = "coast weather 3;hill stack 2 fear 1 took;hill stack 3 fear 2 gap 2;"
            + "hill stack 1 fear 5 gap 4;village needs 3;village needs 1;road 0 0 carries 1;road 1 0 carries 5;"
            + "road 2 1 carries 9;road 1 1 carries 1;";

    public static void main(String[] args) {
        newObject();
        feed();
        coast();
        whatIsTold();
        laws();
        fault();
        hillAndVillage();
        takesAndBy();
        night();
        nights();
        steal();
        weather();
        undo();
        judge();
        perform();
        century();
        lies();
        round();
        bare();
        rests();
        soonestAndWay();
        rows();
        keeps();
        reachesAndStands();
        litAndBrightest();
        woodAndNeeded();
        high();
        weathers();
        attempt();
        forcesAndBest();
        chance();
        mean();
        numbersAndWrite();
        lists();
        imageAndRestore();
        count();
        Calls.end();
    }

    private static void due(String call, long got, long want) {
        Calls.due(call, got, want);
    }

    private static void newObject() {
        Calls.promise("1 a new object");
        BeaconDelay x = new BeaconDelay();
        for (int what = 0; what <= 9; what++) {
            due("count " + what, x.count(what), 0);
        }
        due("hill", x.hill(0, 0), -2);
        due("village", x.village(0), -2);
        due("fault 0", x.fault(0), 0);
        due("fault 1", x.fault(1), -1);
        due("stands", x.stands(), 1);
        due("rests", x.rests(), 1);
        due("keeps", x.keeps(4), -1);
        due("brightest", x.brightest(), -1);
        due("bare", x.bare(), 0);
        due("mean 7 0", x.mean(7, 0), 0);
        due("mean 7 1", x.mean(7, 1), 1);
        due("night 0", x.night(0), 0);
        due("night 1", x.night(1), -11);
        due("count 6", x.count(6), 1);
        for (int i = 0; i < 4; i++) {
            due("perform " + i, x.perform(i), -6);
        }
        due("restore 0", x.restore(0), -5);
        due("restore 1", x.restore(1), -5);
        due("NONE", BeaconDelay.NONE, -1);
    }

    private static void feed() {
        Calls.promise("2 feed");
        BeaconDelay x = new BeaconDelay();
        for (int i = 1; i <= 45; i++) {
            due("feed", x.feed(0, -1, i, Integer.MIN_VALUE, Integer.MAX_VALUE), 20L * i);
        }
        due("feed over 900", x.feed(1, 2, 3, 4, 5), -5);
        due("bytes", x.count(8), 900);
        due("byte 0 begins no token", x.coast(900), -31);
        due("place", x.fault(1), 0);
        // "coast weather 1;A..."
        x.feed(0x636f6173, 0x74207765, 0x61746865, 0x7220313b, 0x41202020);
        due("coast", x.coast(20), -31);
        due("place", x.fault(1), 16);
    }

    private static void coast() {
        Calls.promise("3 coast");
        BeaconDelay x = new BeaconDelay();
        due("coast -1", x.coast(-1), -3);
        due("coast 1 of nothing", x.coast(1), -3);
        due("coast 0", x.coast(0), -32);
        due("lines", Calls.tell(x, PLAIN), 4);
        due("lines", x.count(9), 4);
        x.night(0);
        x.night(0);
        due("nights", x.count(6), 2);
        due("calls", x.count(7), 2);
        x.feed(0x20202020, 0x20202020, 0x20202020, 0x20202020, 0x20202020);
        due("above what there is", x.coast(21), -3);
        due("below 0", x.coast(-1), -3);
        due("tape stays", x.count(8), 20);
        due("blanks alone", x.coast(20), -32);
        due("place is the length", x.fault(1), 20);
        due("tape is empty", x.count(8), 0);
        due("all stays: hills", x.count(0), 3);
        due("all stays: nights", x.count(6), 2);
        due("all stays: calls", x.count(7), 2);
        due("all stays: lines", x.count(9), 4);
        due("all stays: stack", x.hill(2, 0), 3);
        due("another coast", Calls.tell(x, SINKING), 4);
        due("hills", x.count(0), 1);
        due("nights", x.count(6), 0);
        due("calls", x.count(7), 0);
        due("undo", x.undo(1), -3);
        due("coast alone", Calls.tell(x, "coast weather 9;"), 1);
        due("hills", x.count(0), 0);
        due("weather", x.count(3), 9);
        Calls.feedAll(x, "coast weather 7;hill stack 1 fear 1;".getBytes());
        due("first bytes alone", x.coast(16), 1);
        due("the rest is gone", x.count(8), 0);
        due("hills", x.count(0), 0);
        String all = "coast weather 1;" + " ".repeat(884);
        due("900 bytes", Calls.tell(x, all), 1);
    }

    private static void whatIsTold() {
        Calls.promise("3 what is told");
        BeaconDelay x = Calls.coastOf("coast weather 002;hill stack 4 fear 9 gap 3 took gap 5 took;"
                + "hill\nstack 0fear 0;village needs 9;village needs 0;road 1 1 carries 9;takes:1=1;adds:0;takes:1=2;adds:3;");
        due("weather", x.count(3), 2);
        due("lines", x.count(9), 10);
        due("later gap", x.hill(0, 3), 5);
        due("gap not told", x.hill(1, 3), 1);
        due("took", x.count(5), 1);
        due("later takes", x.takes(0, 0), 0);
        due("later adds", x.by(0, 0), 3);
        due("villages", x.count(1), 2);
        due("roads", x.count(2), 1);
    }

    private static void holds(String truth, boolean so) {
        BeaconDelay x = Calls.coastOf("coast weather 6;hill stack 3 fear 8 took;hill stack 2 fear 5;takes : " + truth + ";");
        due("takes : " + truth, x.takes(0, 1), so ? 1 : 0);
    }

    private static void laws() {
        Calls.promise("3 laws");
        holds("1 + 2 * 3 = 7", true);
        holds("(1 + 2) * 3 = 9", true);
        holds("9 - 3 - 2 = 4", true);
        holds("9 - 3 + 2 = 8", true);
        holds("2 * 3 * 4 = 24", true);
        holds("0 - 5 < 0", true);
        holds("1 < 1", false);
        holds("1 > 1", false);
        holds("2 > 1", true);
        holds("1 = 1 or 1 = 1 and 1 = 2", true);
        holds("1 = 2 and 1 = 1 or 1 = 1", true);
        holds("1 = 2 or 1 = 1 and 1 = 2", false);
        holds("[1 = 1 or 1 = 1] and 1 = 2", false);
        holds("not 1 = 2 and 1 = 2", false);
        holds("not [1 = 2 and 1 = 2]", true);
        holds("not not not 1 = 1", false);
        holds("not 1 = 2 or 1 = 1", true);
        holds("hill = 1", true);
        holds("stack = 2", true);
        holds("west = 3", true);
        holds("seen = 1", true);
        holds("fear = 5", true);
        holds("weather = 6", true);
        holds("if stack = 2 then 7 else 8 end = 7", true);
        holds("if stack = 3 then 7 else 8 end + 1 = 9", true);
        holds("2 * if 1 = 1 then 3 else 4 end * 2 = 12", true);
        holds("999 * 999 * 999 - 1 = 999 * 999 * 2 - 1", true);
        holds("999 * 999 = 998 * 999 + 999", true);
        holds("999 * 999 + 999 + 999 + 1 = 999 * 999 + 999 + 999", false);
        holds("999 * 999 + 999 + 999 + 999 = 999 * 999 + 999 + 999 + 1", true);
        holds("0 - 999 * 999 * 999 - 5 + 1 = 1 - 999 * 999 * 999", true);
        holds("(0 - 999) * 999 * 999 = 0 - 999 * 999 * 999", true);
        holds("((((((1)))))) = 1", true);
        holds("not [not [not [1 = 2]]]", true);
        holds("if if if if if if 1 = 2 then 1 else 2 end = 2 then 3 else 4 end = 3 then 5 else 6 end = 5"
                + " then 7 else 8 end = 7 then 1 else 2 end = 1 then 1 else 0 end = 1", true);
        BeaconDelay x = Calls.coastOf("coast weather 1;hill stack 1 fear 0;hill stack 2 fear 0;adds : west - 1 + weather * stack;");
        due("west of the first is 0", x.by(0, 0), 0);
        due("west of the second", x.by(0, 1), 2);
        x.weather(9);
        due("4 at most", x.by(0, 1), 4);
        x = Calls.coastOf("coast weather 1;hill stack 1 fear 0 took;takes : seen = 1;adds : seen;");
        due("the first sees none", x.takes(0, 0), 0);
        due("the first sees none", x.by(0, 0), 0);
    }

    private static void fault() {
        Calls.promise("4 fault");
        BeaconDelay x = new BeaconDelay();
        due("not read", x.coast(5), -3);
        due("fault 0", x.fault(0), 0);
        due("fault 1", x.fault(1), -1);
        due("text", Calls.tell(x, "coast weather 10;"), -33);
        due("fault 0", x.fault(0), 3);
        due("fault 1", x.fault(1), 14);
        due("fault 2", x.fault(2), -1);
        due("fault -1", x.fault(-1), -1);
        due("not read", x.coast(-1), -3);
        due("fault 0 stays", x.fault(0), 3);
        due("text", Calls.tell(x, "coast weather 1;"), 1);
        due("fault 0", x.fault(0), 0);
        due("fault 1", x.fault(1), -1);
    }

    private static void hillAndVillage() {
        Calls.promise("5 hill");
        BeaconDelay x = Calls.coastOf("coast weather 1;hill stack 3 fear 9 gap 7;hill stack 1 fear 2 took;village needs 4;village needs 0;");
        long[][] told = {{3, 9, 0, 7}, {1, 2, 1, 1}};
        for (int h = 0; h < 2; h++) {
            for (int what = 0; what < 4; what++) {
                due("hill " + h + " " + what, x.hill(h, what), told[h][what]);
            }
        }
        due("hill 2 0", x.hill(2, 0), -2);
        due("hill -1 0", x.hill(-1, 0), -2);
        due("hill 0 4", x.hill(0, 4), -2);
        due("hill 0 -1", x.hill(0, -1), -2);
        Calls.promise("6 village");
        due("village 0", x.village(0), 4);
        due("village 1", x.village(1), 0);
        due("village 2", x.village(2), -2);
        due("village -1", x.village(-1), -2);
    }

    private static void takesAndBy() {
        BeaconDelay x = Calls.coastOf(PLAIN);
        Calls.promise("7 takes");
        due("takes 0 0", x.takes(0, 0), 0);
        due("takes 0 1", x.takes(0, 1), 1);
        due("takes 1 1", x.takes(1, 1), 0);
        due("takes 2 1", x.takes(2, 1), 1);
        due("takes 0 2", x.takes(0, 2), 0);
        due("takes 3 0", x.takes(3, 0), -5);
        due("takes -1 0", x.takes(-1, 0), -5);
        due("takes 10 0", x.takes(10, 0), -5);
        due("takes 0 3", x.takes(0, 3), -2);
        due("takes 9 -1", x.takes(9, -1), -2);
        Calls.promise("8 by");
        due("by 0 0", x.by(0, 0), 4);
        due("by 0 1", x.by(0, 1), 3);
        due("by 1 1", x.by(1, 1), 4);
        due("by 2 1", x.by(2, 1), 3);
        due("by 3 1", x.by(3, 1), -5);
        due("by 0 3", x.by(0, 3), -2);
        due("by 7 7", x.by(7, 7), -2);
        due("nothing is done", x.count(6) + x.count(7), 0);
        x = Calls.coastOf("coast weather 0;hill stack 0 fear 0;takes : 1 = 1;");
        due("a stack of 0 stays", x.by(0, 0), 0);
        due("its man takes all the same", x.takes(0, 0), 1);
    }

    private static void night() {
        Calls.promise("9 night");
        BeaconDelay x = Calls.coastOf(PLAIN);
        due("night 0", x.night(0), 2);
        due("stack", x.hill(1, 0), 3);
        due("took", x.count(5), 2);
        due("night 0", x.night(0), 4);
        due("stacks", x.count(4), 11);
        due("nights", x.count(6), 2);
        due("night 3", x.night(3), -11);
        due("night -1", x.night(-1), -11);
        due("night 10", x.night(10), -11);
        due("night 20", x.night(20), -11);
        due("nights", x.count(6), 2);
        due("calls", x.count(7), 2);
        x = Calls.coastOf(PLAIN);
        due("night 1", x.night(1), 0);
        due("stacks", x.count(4), 12);
        x = Calls.coastOf(PLAIN);
        due("night 2", x.night(2), 2);
    }

    private static void nights() {
        Calls.promise("10 nights");
        BeaconDelay x = Calls.coastOf(PLAIN);
        due("nights 0", x.nights(0), -3);
        due("nights 100", x.nights(100), -3);
        due("nights 2", x.nights(2), 4);
        due("nights", x.count(6), 2);
        due("calls", x.count(7), 1);
        due("nights 99", x.nights(99), 0);
        due("nights", x.count(6), 101);
        due("undo", x.undo(1), 1);
        due("took", x.count(5), 4);
    }

    private static void steal() {
        Calls.promise("11 steal");
        BeaconDelay x = Calls.coastOf("coast weather 0;hill stack 2 fear 0;hill stack 0 fear 0;");
        due("steal 0", x.steal(0), 1);
        due("took", x.count(5), 1);
        due("steal 0", x.steal(0), 0);
        due("steal 0", x.steal(0), -12);
        due("steal 1", x.steal(1), -12);
        due("steal 2", x.steal(2), -11);
        due("steal -1", x.steal(-1), -11);
        due("took", x.count(5), 1);
        due("calls", x.count(7), 2);
        due("nights", x.count(6), 0);
        due("who saw it takes", x.night(0), 2);
    }

    private static void weather() {
        Calls.promise("12 weather");
        BeaconDelay x = Calls.coastOf("coast weather 5;hill stack 0 fear 0;adds : weather;");
        due("weather 10", x.weather(10), -11);
        due("weather -1", x.weather(-1), -11);
        due("calls", x.count(7), 0);
        due("weather 3", x.weather(3), 5);
        due("by", x.by(0, 0), 3);
        due("weather 3", x.weather(3), 3);
        due("calls", x.count(7), 2);
        due("weather 0", x.weather(0), 3);
        due("by", x.by(0, 0), 0);
    }

    private static void undo() {
        Calls.promise("13 undo");
        BeaconDelay x = Calls.coastOf(PLAIN);
        due("undo 1", x.undo(1), -3);
        x.night(0);
        x.weather(7);
        x.steal(0);
        due("calls", x.count(7), 3);
        due("undo 0", x.undo(0), -3);
        due("undo 4", x.undo(4), -3);
        due("undo 1", x.undo(1), 2);
        due("stack", x.hill(0, 0), 4);
        due("took", x.count(5), 2);
        due("weather", x.count(3), 7);
        due("undo 2", x.undo(2), 0);
        due("weather", x.count(3), 0);
        due("took", x.count(5), 1);
        due("nights", x.count(6), 0);
        for (int i = 0; i < 13; i++) {
            x.weather(i % 10);
        }
        due("10 at most", x.count(7), 10);
        due("undo 11", x.undo(11), -3);
        due("undo 10", x.undo(10), 0);
        due("the eldest are forgotten", x.count(3), 2);
    }

    private static void judge() {
        Calls.promise("14 judge");
        BeaconDelay x = Calls.coastOf(PLAIN);
        due("missing", x.judge(0, 0), -6);
        due("no such tray", x.judge(4, 0), -2);
        due("no such tray", x.judge(-1, 0), -2);
        due("no such what", x.judge(0, 4), -2);
        due("no such what", x.judge(0, -1), -2);
        Calls.tray(x, 0, 0, 10, 25, 2);
        long[] good = {-1, 0, 10, 2};
        // night: 4 3t 4; theft: 3t 3t 4; fog in the gap of 2: 4 2t 4
        for (int what = 0; what < 4; what++) {
            due("good " + what, x.judge(0, what), good[what]);
        }
        Calls.tray(x, 1, 1, 3, 0);
        long[] bad = {1, 1, 12, 0};
        for (int what = 0; what < 4; what++) {
            due("no such gap " + what, x.judge(1, what), bad[what]);
        }
        Calls.tray(x, 2, 12, 12, 12, 12, 12, 0);
        long[] poor = {4, 2, 8, 5};
        for (int what = 0; what < 4; what++) {
            due("stack is 0 " + what, x.judge(2, what), poor[what]);
        }
        for (long v : new long[] {-1, 4, 9, 13, 19, 30, 1L << 40, (1L << 32), Long.MIN_VALUE}) {
            Calls.tray(x, 3, v);
            due("deed " + v, x.judge(3, 1), 1);
            due("deed " + v, x.judge(3, 0), 0);
        }
        Calls.tray(x, 3);
        due("empty", x.judge(3, 0), -1);
        due("empty", x.judge(3, 2), 12);
        due("nothing is done", x.count(4) * 100 + x.count(5) * 10 + x.count(6), 1210);
        due("weather", x.count(3), 0);
    }

    private static void perform() {
        Calls.promise("15 perform");
        BeaconDelay x = Calls.coastOf(PLAIN);
        due("missing", x.perform(0), -6);
        due("no such tray", x.perform(4), -2);
        Calls.tray(x, 0, 0, 10, 25, 2, 99, 0);
        due("perform", x.perform(0), 4);
        due("stacks", x.count(4), 10);
        due("took", x.count(5), 2);
        due("weather", x.count(3), 5);
        due("nights", x.count(6), 2);
        due("calls", x.count(7), 1);
        due("undo", x.undo(1), 0);
        due("stacks", x.count(4), 12);
        due("weather", x.count(3), 0);
        Calls.tray(x, 1, 99, 0);
        due("none", x.perform(1), 0);
        Calls.tray(x, 1);
        due("empty", x.perform(1), 0);
        due("calls that did none can't be undone", x.count(7), 0);
    }

    private static void century() {
        Calls.promise("16 century");
        BeaconDelay x = Calls.coastOf(PLAIN);
        due("0", x.century(1, 0), -3);
        due("41", x.century(1, 41), -3);
        due("calls", x.count(7), 0);
        int seed = 20261118;
        int draw = seed;
        int done = 0;
        BeaconDelay y = Calls.coastOf(PLAIN);
        for (int i = 0; i < 40; i++) {
            draw = 1103515245 * draw + 12345;
            int kind = (draw >>> 16) % 6;
            int other = 0;
            if (kind > 2) {
                draw = 1103515245 * draw + 12345;
                other = draw >>> 16;
            }
            int code = kind < 3 ? y.night(0) : kind == 3 ? y.night(other % 4) : kind == 4 ? y.steal(other % 4) : y.weather(other % 10);
            done += code >= 0 ? 1 : 0;
        }
        due("century", x.century(seed, 40), done);
        for (int what = 3; what <= 6; what++) {
            due("count " + what, x.count(what), y.count(what));
        }
        due("undone as a whole", x.undo(1), 0);
        due("took", x.count(5), 1);
        due("nights", x.count(6), 0);
        // By seed 0: draws 0 (x 12345), then the deed 0 without more draws.
        due("century 0 1", x.century(0, 1), 1);
        due("nights", x.count(6), 1);
        BeaconDelay z = new BeaconDelay();
        int none = 0;
        for (int s = 0; s < 60; s++) {
            int before = z.count(7);
            int could = z.century(s * 65536, 1);
            none += could == 0 ? 1 : 0;
            due("calls that did none", z.count(7), Math.min(10, before + could));
        }
        Calls.holds("some did none", none > 0);
    }

    private static void lies() {
        Calls.promise("17 lies");
        BeaconDelay x = Calls.coastOf(PLAIN);
        int[] second = {4, 3, 4, 4, 4};
        for (int n = 0; n < 5; n++) {
            due("lies 1 " + n, x.lies(1, n), second[n]);
        }
        due("lies 2 2", x.lies(2, 2), 3);
        due("lies 2 99999", x.lies(2, 99999), 4);
        due("lies 2 100000", x.lies(2, 100000), -3);
        due("lies 2 -1", x.lies(2, -1), -3);
        due("lies 3 0", x.lies(3, 0), -2);
        due("lies -1 -1", x.lies(-1, -1), -2);
        x = Calls.coastOf(SWINGING);
        due("lies 0 99998", x.lies(0, 99998), 4);
        due("lies 0 99999", x.lies(0, 99999), 3);
        due("lies 0 3", x.lies(0, 3), 3);
        due("nothing is done", x.count(6), 0);
    }

    private static void round() {
        Calls.promise("18 round");
        BeaconDelay x = Calls.coastOf(PLAIN);
        due("round 0", x.round(0), 3);
        due("round 1", x.round(1), 1);
        due("round 2", x.round(2), -2);
        due("round -1", x.round(-1), -2);
        x = Calls.coastOf(SWINGING);
        due("round 0", x.round(0), 4);
        due("round 1", x.round(1), 2);
        x.nights(5);
        due("round 0 on the way round", x.round(0), 0);
        due("round 1", x.round(1), 2);
        x = Calls.coastOf("coast weather 0;hill stack 4 fear 0 took;");
        due("who took counts", x.round(0), 1);
        // The first swings, the second counts by fives whenever it sees that: in each second night.
        x = Calls.coastOf("coast weather 0;hill stack 1 fear 0;hill stack 3 fear 0;takes : hill = 0 and stack = 4;"
                + "adds : if hill = 0 then stack + 1 else if seen = 1 then if stack = 4 then 0 else stack + 1 end else stack end end;");
        due("round 0", x.round(0), 3);
        due("round 1", x.round(1), 10);
        due("lies 1 4", x.lies(1, 4), 3);
        due("lies 1 5", x.lies(1, 5), 4);
        due("lies 1 7", x.lies(1, 7), 0);
        due("lies 1 99997", x.lies(1, 99997), 0);
        // Each hill counts by fives, and goes on in each night behind which the one west of it was at 4:
        // so the third goes on five times in a round of the second, and is where it was.
        x = Calls.coastOf("coast weather 0;hill stack 0 fear 0;hill stack 0 fear 0;hill stack 0 fear 0;"
                + "takes : 1 = 2;adds : if hill = 0 or west = 4 then if stack = 4 then 0 else stack + 1 end else stack end;");
        due("round 0", x.round(0), 0);
        due("round 1", x.round(1), 25);
    }

    private static void bare() {
        Calls.promise("19 bare");
        BeaconDelay x = Calls.coastOf(SINKING);
        due("bare", x.bare(), 4);
        x.nights(3);
        due("bare", x.bare(), 1);
        x.night(0);
        due("bare", x.bare(), 0);
        x = Calls.coastOf(SWINGING);
        due("bare", x.bare(), 0);
        x.night(0);
        due("bare", x.bare(), -1);
        x = Calls.coastOf("coast weather 0;hill stack 4 fear 0;hill stack 2 fear 0;takes : 1 = 1;");
        due("all of them", x.bare(), 4);
    }

    private static void rests() {
        Calls.promise("20 rests");
        due("plain", Calls.coastOf(PLAIN).rests(), 1);
        due("sinking", Calls.coastOf(SINKING).rests(), 1);
        due("swinging", Calls.coastOf(SWINGING).rests(), 0);
        due("all stays", Calls.coastOf("coast weather 0;hill stack 0 fear 0;hill stack 0 fear 0;takes : 1 = 2;adds : stack;").rests(), 25);
        // All take: bare stacks and men who took.
        due("all take", Calls.coastOf("coast weather 0;hill stack 3 fear 0;hill stack 3 fear 0;takes : 1 = 1;").rests(), 1);
        // The second copies the first.
        due("copied", Calls.coastOf("coast weather 0;hill stack 3 fear 0;hill stack 3 fear 0;takes : 1 = 2;adds : if hill = 0 then stack else west end;").rests(), 5);
        BeaconDelay x = Calls.coastOf("coast weather 0;hill stack 3 fear 0;takes : 1 = 2;adds : if weather = 0 then stack else 4 end;");
        due("by the weather", x.rests(), 5);
        x.weather(1);
        due("by the weather", x.rests(), 1);
    }

    private static void soonestAndWay() {
        BeaconDelay x = Calls.coastOf(PLAIN);
        Calls.promise("21 soonest");
        due("soonest 2 3", x.soonest(2, 3), 2);
        due("soonest 1 3", x.soonest(1, 3), 1);
        due("soonest 1 4", x.soonest(1, 4), 0);
        due("soonest 1 2", x.soonest(1, 2), -1);
        due("soonest 0 5", x.soonest(0, 5), -3);
        due("soonest 0 -1", x.soonest(0, -1), -3);
        due("soonest 3 9", x.soonest(3, 9), -2);
        Calls.promise("22 way");
        due("way 2 3 0", x.way(2, 3, 0), 0);
        due("way 2 3 1", x.way(2, 3, 1), 0);
        due("way 2 3 2", x.way(2, 3, 2), -1);
        due("way 1 4 0", x.way(1, 4, 0), -1);
        due("way 1 2 0", x.way(1, 2, 0), -1);
        due("way 1 2 -1", x.way(1, 2, -1), -3);
        due("way 1 5 0", x.way(1, 5, 0), -3);
        due("way 3 5 -1", x.way(3, 5, -1), -2);
        // The second comes down only by fog, two nights one behind the other; the first always takes.
        x = Calls.coastOf("coast weather 0;hill stack 4 fear 0 took;hill stack 4 fear 0;hill stack 4 fear 0;"
                + "takes : hill = 0;adds : if hill = 1 and seen = 0 then stack - 2 else 4 end;");
        due("soonest 1 0", x.soonest(1, 0), 2);
        due("way 1 0 0", x.way(1, 0, 0), 1);
        due("way 1 0 1", x.way(1, 0, 1), 1);
        due("soonest 1 2", x.soonest(1, 2), 1);
        due("rows 1 0 3", x.rows(1, 0, 3), 3);
        // The second comes to 1 by fog, none, fog alone.
        x = Calls.coastOf("coast weather 0;hill stack 4 fear 0 took;hill stack 4 fear 0;hill stack 4 fear 0;"
                + "takes : hill = 0;adds : if stack = 4 then 3 + seen else if stack = 3 then 4 - 2 * seen else 1 + 3 * seen end end;");
        int[] row = {1, 0, 1, -1};
        due("soonest 1 1", x.soonest(1, 1), 3);
        for (int i = 0; i < 4; i++) {
            due("way 1 1 " + i, x.way(1, 1, i), row[i]);
        }
        due("rows 1 1 3", x.rows(1, 1, 3), 2);
    }

    private static void rows() {
        Calls.promise("23 rows");
        BeaconDelay x = Calls.coastOf(PLAIN);
        due("rows 2 3 2", x.rows(2, 3, 2), 4);
        due("rows 2 4 2", x.rows(2, 4, 2), 5);
        due("rows 1 3 1", x.rows(1, 3, 1), 2);
        due("rows 1 4 0", x.rows(1, 4, 0), 1);
        due("rows 1 3 0", x.rows(1, 3, 0), 0);
        due("rows 0 4 12", x.rows(0, 4, 12), 531441);
        due("rows 0 4 13", x.rows(0, 4, 13), -3);
        due("rows 0 4 -1", x.rows(0, 4, -1), -3);
        due("rows 0 5 1", x.rows(0, 5, 1), -3);
        due("rows 3 5 1", x.rows(3, 5, 1), -2);
        x = Calls.coastOf(PLAIN + "hill stack 4 fear 0;");
        due("rows 0 4 12", x.rows(0, 4, 12), 16777216);
    }

    private static void keeps() {
        Calls.promise("24 keeps");
        BeaconDelay x = Calls.coastOf(PLAIN);
        due("keeps 4", x.keeps(4), -1);
        due("keeps 5", x.keeps(5), -3);
        due("keeps -1", x.keeps(-1), -3);
        x = Calls.coastOf(SINKING);
        due("keeps 4", x.keeps(4), 0);
        due("keeps 3", x.keeps(3), 1);
        due("keeps 1", x.keeps(1), 3);
        due("keeps 0", x.keeps(0), -1);
        x = Calls.coastOf("coast weather 0;hill stack 0 fear 0;takes : 1 = 2;adds : stack + 1;");
        due("what is now does not count", x.keeps(1), -1);
        due("keeps 2", x.keeps(2), 0);
        // Fog can put off by one night that the second falls.
        x = Calls.coastOf("coast weather 0;hill stack 1 fear 0 took;hill stack 4 fear 0;takes : 1 = 2;"
                + "adds : if hill = 0 then 1 else stack - 1 - 2 * seen end;");
        due("the longest of them", x.keeps(1), 3);
        due("without fog", x.by(0, 1), 1);
    }

    private static void reachesAndStands() {
        BeaconDelay x = Calls.coastOf(PLAIN);
        Calls.promise("25 reaches");
        due("reaches 1 0", x.reaches(1, 0), 4);
        due("reaches 1 1", x.reaches(1, 1), 3);
        due("reaches 2 1", x.reaches(2, 1), 3);
        due("reaches 0 1", x.reaches(0, 1), 4);
        due("reaches 0 2", x.reaches(0, 2), -2);
        due("reaches 0 -1", x.reaches(0, -1), -2);
        due("reaches 3 0", x.reaches(3, 0), -2);
        Calls.promise("26 stands");
        due("stands", x.stands(), 4);
        x.nights(9);
        due("stands", x.stands(), 1);
        x = Calls.coastOf(SINKING);
        due("stands", x.stands(), 5);
        due("now, too", x.reaches(0, 0), 4);
        x = Calls.coastOf("coast weather 0;hill stack 0 fear 0;hill stack 0 fear 0;hill stack 0 fear 0;hill stack 0 fear 0;"
                + "takes : 1 = 2;adds : if hill = 0 or west = 4 then if stack = 4 then 0 else stack + 1 end else stack end;");
        due("stands", x.stands(), 125);
        due("round", x.round(1), 125);
    }

    private static void litAndBrightest() {
        Calls.promise("27 lit");
        BeaconDelay x = Calls.coastOf("coast weather 0;hill stack 3 fear 0 gap 9;hill stack 1 fear 0 gap 3;hill stack 1 fear 0;hill stack 0 fear 0;");
        due("lit 0", x.lit(0), 7);
        due("lit 1", x.lit(1), 6);
        due("lit 2", x.lit(2), 6);
        due("lit 3", x.lit(3), 0);
        due("lit 4", x.lit(4), -2);
        due("lit -1", x.lit(-1), -2);
        Calls.promise("28 brightest");
        due("brightest", x.brightest(), 0);
        x.steal(0);
        due("brightest", x.brightest(), 1);
        due("lit 0", x.lit(0), 1);
        due("none is lit by any", Calls.coastOf("coast weather 0;hill stack 0 fear 0;hill stack 0 fear 0;").brightest(), 0);
        x = Calls.coastOf("coast weather 0;hill stack 1 fear 0;hill stack 4 fear 0 gap 5;hill stack 2 fear 0 gap 4;");
        due("the first of the best", x.brightest(), 1);
        due("lit 1", x.lit(1), 6);
        due("lit 2", x.lit(2), 4);
    }

    private static void woodAndNeeded() {
        Calls.promise("29 wood");
        BeaconDelay x = Calls.coastOf(ROADS);
        due("wood", x.wood(), 4);
        Calls.promise("30 needed");
        due("needed", x.needed(), 2);
        x = Calls.coastOf("coast weather 0;hill stack 4 fear 0;village needs 9;road 0 0 carries 3;road 0 0 carries 2;");
        due("wood", x.wood(), 4);
        due("needed", x.needed(), 3);
        x.steal(0);
        x.steal(0);
        due("wood", x.wood(), 2);
        due("needed", x.needed(), 0);
        // The first must give to the second village, so that the second hill can serve the first one.
        x = Calls.coastOf("coast weather 0;hill stack 2 fear 0;hill stack 2 fear 0;village needs 2;village needs 2;"
                + "road 0 0 carries 9;road 0 1 carries 9;road 1 0 carries 9;");
        due("wood", x.wood(), 4);
        due("needed", x.needed(), 6);
        due("no roads", Calls.coastOf("coast weather 0;hill stack 2 fear 0;village needs 2;").wood(), 0);
        due("no needs", Calls.coastOf("coast weather 0;hill stack 2 fear 0;village needs 0;road 0 0 carries 9;").wood(), 0);
    }

    private static void high() {
        BeaconDelay x = Calls.coastOf(PLAIN);
        Calls.promise("31 high");
        due("no such tray", x.high(4, 0), -2);
        due("no such hill", x.high(0, 3), -2);
        due("missing", x.high(0, 0), -6);
        Calls.tray(x, 0);
        due("no numbers", x.high(0, 0), -4);
        Calls.tray(x, 0, 9, 9, 9, 9, 9, 9, 9, 9, 9);
        due("nine numbers", x.high(0, 0), -4);
        due("as high()", x.highBy(0, 0, -1), -4);
        due("as high()", x.fogs(0, 0, 99), -4);
        Calls.tray(x, 0, 4, 5);
        due("a 5", x.high(0, 0), -3);
        Calls.tray(x, 0, 4, -2);
        due("a -2", x.high(0, 0), -3);
        Calls.tray(x, 0, -1, -1, -1, -1, -1, -1, -1, -1);
        due("nothing known", x.high(0, 0), 6561);
        Calls.tray(x, 0, 4, 3);
        due("4 3", x.high(0, 2), 4);
        Calls.promise("32 highBy");
        due("4 3", x.highBy(0, 2, 0), 0);
        due("4 3", x.highBy(0, 2, 1), 0);
        due("4 3", x.highBy(0, 2, 2), -1);
        due("4 3", x.highBy(0, 2, -1), -3);
        Calls.promise("33 fogs");
        due("4 3", x.fogs(0, 2, 0), 5);
        due("4 3", x.fogs(0, 2, 1), 3);
        due("4 3", x.fogs(0, 2, 2), -7);
        due("4 3", x.fogs(0, 2, -1), -3);
        Calls.tray(x, 0, -1, 4);
        due("? 4", x.high(0, 2), 5);
        due("? 4", x.highBy(0, 2, 0), 0);
        due("? 4", x.highBy(0, 2, 1), 2);
        due("? 4", x.fogs(0, 2, 0), 7);
        due("? 4", x.fogs(0, 2, 1), 7);
        Calls.tray(x, 0, 4, 4);
        due("4 4 of the second", x.high(0, 1), 3);
        due("4 4 of the second", x.highBy(0, 1, 0), 1);
        due("4 4 of the second", x.fogs(0, 1, 0), 2);
        Calls.tray(x, 0, 0);
        due("none", x.high(0, 1), 0);
        due("none", x.highBy(0, 1, 0), -1);
        due("none", x.fogs(0, 1, 0), 0);
        due("none", x.fogs(0, 1, 1), -7);
    }

    private static void weathers() {
        Calls.promise("34 weathers");
        BeaconDelay x = Calls.coastOf("coast weather 5;hill stack 0 fear 0;takes : 1 = 2;adds : weather + stack - 1;");
        due("no such tray", x.weathers(-1, 0), -2);
        due("no such hill", x.weathers(0, 1), -2);
        due("missing", x.weathers(0, 0), -6);
        Calls.tray(x, 0);
        due("no numbers", x.weathers(0, 0), -4);
        Calls.tray(x, 0, 0, 0, 0, 0, 0, 0, 0, 0, 0);
        due("nine numbers", x.weathers(0, 0), -4);
        Calls.tray(x, 0, 0, -1);
        due("not known", x.weathers(0, 0), -3);
        Calls.tray(x, 0, 5);
        due("a 5", x.weathers(0, 0), -3);
        Calls.tray(x, 0, 0);
        due("0", x.weathers(0, 0), 3);
        Calls.tray(x, 0, 4);
        due("4", x.weathers(0, 0), 1023 - 31);
        Calls.tray(x, 0, 1, 2, 3, 4);
        due("1 2 3 4", x.weathers(0, 0), 4);
        Calls.tray(x, 0, 1, 1);
        due("1 1", x.weathers(0, 0), 0);
        due("the weather stays", x.count(3), 5);
    }

    private static void attempt() {
        Calls.promise("35 attempt");
        // The first always takes; the second is as high as the weather tells, if it sees nothing.
        BeaconDelay x = Calls.coastOf("coast weather 0;hill stack 0 fear 0;hill stack 0 fear 0;"
                + "takes : hill = 0;adds : if seen = 1 then 0 else weather end;");
        due("missing", x.attempt(0, 0), -6);
        due("no such hill", x.attempt(0, 2), -2);
        Calls.tray(x, 0);
        due("no numbers", x.attempt(0, 0), -4);
        Calls.tray(x, 0, -1);
        due("not known", x.attempt(0, 0), -3);
        Calls.tray(x, 0, 0);
        due("weathers", x.weathers(0, 0), 1023);
        due("behind the night that is told, fog", x.attempt(0, 0), 1);
        Calls.tray(x, 0, 3);
        due("weathers", x.weathers(0, 1), 8);
        due("one weather: any night", x.attempt(0, 1), 0);
        Calls.tray(x, 0, 1);
        due("none", x.attempt(0, 0), -1);
        // By fog the second is bare in all weathers, but in weather 0 its man took: STACKS alone are looked at.
        x = Calls.coastOf("coast weather 0;hill stack 4 fear 0 took;hill stack 0 fear 0;"
                + "takes : hill = 0 or seen = 0 and weather = 0;adds : seen;");
        due("weathers", numbersAt(x, 3), 1023);
        due("who took is not looked at", x.attempt(0, 0), 0);
        // By fog all but weather 0 are alike (nine), without it all but 8 and 9 (eight).
        x = Calls.coastOf("coast weather 0;hill stack 4 fear 0 took;hill stack 0 fear 0;"
                + "takes : hill = 0;adds : if seen = 1 then if weather > 7 then 1 else 0 end else if weather > 0 then 1 else 0 end end;");
        due("weathers", numbersAt(x, 3), 1023);
        due("eight before nine", x.attempt(0, 0), 0);
        // By fog five are alike and five others, without it 0 to 5, which are six.
        x = Calls.coastOf("coast weather 0;hill stack 4 fear 0 took;hill stack 0 fear 0;"
                + "takes : hill = 0;adds : if seen = 1 then if weather > 5 then 1 else 0 end else if weather > 4 then 1 else 0 end end;");
        due("weathers", numbersAt(x, 3), 1023);
        due("five before six", x.attempt(0, 0), 1);
        // By fog 0 to 3 are alike, which are four; without it 1 to 5, and five others.
        x = Calls.coastOf("coast weather 0;hill stack 4 fear 0 took;hill stack 0 fear 0;"
                + "takes : hill = 0;adds : if seen = 1 then if weather > 0 and weather < 6 then 1 else 0 end"
                + " else if weather < 4 then 1 else if weather < 7 then 2 else 3 end end end;");
        due("weathers", numbersAt(x, 3), 1023);
        due("four before five", x.attempt(0, 0), 1);
    }

    private static int numbersAt(BeaconDelay x, long told) {
        Calls.tray(x, 0, told);
        return x.weathers(0, 0);
    }

    private static void forcesAndBest() {
        BeaconDelay x = Calls.coastOf(PLAIN);
        Calls.promise("36 forces");
        due("forces 1 3", x.forces(1, 3), 1);
        due("forces 2 3: the other one sends fog", x.forces(2, 3), -1);
        due("forces 2 4", x.forces(2, 4), 0);
        due("forces 0 0", x.forces(0, 0), -1);
        due("forces 3 0", x.forces(3, 0), -2);
        due("forces 0 5", x.forces(0, 5), -3);
        due("forces 0 -1", x.forces(0, -1), -3);
        due("forces 9 9", x.forces(9, 9), -2);
        Calls.promise("37 best");
        due("best 1 3", x.best(1, 3), 0);
        due("best 2 3", x.best(2, 3), -1);
        due("best 2 4", x.best(2, 4), -1);
        due("best 3 0", x.best(3, 0), -2);
        due("best 0 5", x.best(0, 5), -3);
        // The second falls by one in a night with fog alone: the first one sends it, the other one never does.
        x = Calls.coastOf("coast weather 0;hill stack 4 fear 0 took;hill stack 4 fear 0;"
                + "takes : hill = 0;adds : stack - 1 + seen;");
        Calls.promise("36 forces");
        due("forces 1 3", x.forces(1, 3), 1);
        due("forces 1 2", x.forces(1, 2), 3);
        due("forces 1 0", x.forces(1, 0), 7);
        due("soonest 1 0", x.soonest(1, 0), 4);
        due("best 1 0", x.best(1, 0), 1);
    }

    private static void chance() {
        Calls.promise("38 chance");
        BeaconDelay x = Calls.coastOf(PLAIN);
        long[][] calls = {{1, 4, 1, 1, 10}, {1, 3, 1, 1, 1}, {2, 4, 2, 19, 100}, {2, 4, 1, 1, 1}, {1, 4, 0, 1, 1}, {2, 0, 7, 1, 1}};
        for (long[] c : calls) {
            due("above", x.chance((int) c[0], (int) c[1], (int) c[2], 0), c[3]);
            due("below", x.chance((int) c[0], (int) c[1], (int) c[2], 1), c[4]);
        }
        due("no such hill", x.chance(3, 9, 9, 0), -2);
        due("no such what", x.chance(0, 9, 9, 2), -2);
        due("no such k", x.chance(0, 5, 0, 0), -3);
        due("no such k", x.chance(0, -1, 0, 0), -3);
        due("no such n", x.chance(0, 0, 8, 0), -3);
        due("no such n", x.chance(0, 0, -1, 0), -3);
        x = Calls.coastOf(SINKING);
        due("never", x.chance(0, 4, 1, 0), 0);
        due("never", x.chance(0, 4, 1, 1), 1);
        // Fog in the last of seven nights alone brings the second to 1.
        x = Calls.coastOf("coast weather 0;hill stack 4 fear 0 took;hill stack 0 fear 0;takes : hill = 0;adds : if seen = 0 then stack + 1 else 0 end;");
        due("four nights with fog in a row", x.chance(1, 4, 7, 0), 1);
        due("four nights with fog in a row", x.chance(1, 4, 7, 1), 10000);
        due("one", x.chance(1, 1, 7, 1), 10);
    }

    private static void mean() {
        Calls.promise("39 mean");
        BeaconDelay x = Calls.coastOf(PLAIN);
        due("mean 0", x.mean(0, 0), 12);
        due("mean 0", x.mean(0, 1), 1);
        due("mean 1", x.mean(1, 0), 111);
        due("mean 1", x.mean(1, 1), 10);
        due("mean 2", x.mean(2, 0), 1119);
        due("mean 2", x.mean(2, 1), 100);
        due("mean 7", x.mean(7, 0), 12);
        due("no such what", x.mean(9, 2), -2);
        due("no such what", x.mean(0, -1), -2);
        due("no such n", x.mean(8, 0), -3);
        due("no such n", x.mean(-1, 1), -3);
    }

    private static void numbersAndWrite() {
        Calls.promise("40 numbers");
        BeaconDelay x = new BeaconDelay();
        due("numbers 4", x.numbers(4, 0, 1), -2);
        due("numbers -1", x.numbers(-1, 0, 1), -2);
        due("sort 4", x.numbers(0, 4, 99), -2);
        due("sort -1", x.numbers(0, -1, 1), -2);
        due("41", x.numbers(0, 0, 41), -3);
        due("-1", x.numbers(0, 0, -1), -3);
        due("still missing", x.perform(0), -6);
        due("40", x.numbers(0, 0, 40), 0);
        due("all are 0, so 40 nights", x.perform(0), 40);
        Calls.promise("41 write");
        due("200", x.write(0, 39, 200), -56);
        due("-129", x.write(0, 0, -129), 127);
        due("no place 40", x.write(0, 40, 1), -7);
        due("no place -1", x.write(0, -1, 1), -7);
        due("no tray", x.write(4, 0, 1), -2);
        due("missing", x.write(1, 99, 1), -6);
        due("41", x.numbers(0, 1, 41), -3);
        due("the tray stays", x.write(0, 0, 255), -1);
        x.numbers(0, 1, 1);
        due("16 bits", x.write(0, 0, 40000), -25536);
        due("16 bits", x.write(0, 0, 32767), 32767);
        x.numbers(0, 2, 1);
        due("32 bits", x.write(0, 0, 1L << 31), Integer.MIN_VALUE);
        due("32 bits", x.write(0, 0, 1L << 32), 0);
        x.numbers(0, 3, 1);
        due("64 bits", x.write(0, 0, Long.MIN_VALUE), Long.MIN_VALUE);
        x.numbers(0, 3, 2);
        due("in place of another one, all 0", x.perform(0), 2);
        due("four of them", x.numbers(3, 3, 0), 0);
        due("no numbers", x.write(3, 0, 1), -7);
    }

    private static void lists() {
        Calls.promise("42 lists");
        BeaconDelay x = Calls.coastOf(SINKING);
        due("no such tray", x.lists(4, 0), -2);
        due("no such hill", x.lists(0, 1), -2);
        due("missing", x.lists(0, 0), -6);
        x.numbers(0, 0, 6);
        due("lists", x.lists(0, 0), 6);
        due("nothing is done", x.count(4), 4);
        // 3 2 1 0 0 0, looked at as heights that were, and as deeds.
        due("as they are", x.high(0, 0), 1);
        due("the first can't be a deed", x.judge(0, 0), 0);
        x.numbers(0, 3, 0);
        due("no places", x.lists(0, 0), 0);
        x = Calls.coastOf(PLAIN);
        x.numbers(2, 0, 3);
        due("lists", x.lists(2, 1), 3);
        due("3 4 4: no fog in its gap at first", x.high(2, 1), 18);
        due("lists", x.lists(2, 2), 3);
        due("4 3 4: no fog where it would be told", x.high(2, 2), 12);
    }

    private static void imageAndRestore() {
        Calls.promise("43 image");
        BeaconDelay x = Calls.coastOf(PLAIN);
        due("image 2", x.image(2), -2);
        due("image -1", x.image(-1), -2);
        x.night(0);
        x.weather(6);
        due("image 0", x.image(0), 0);
        due("calls stay", x.count(7), 2);
        Calls.promise("44 restore");
        due("restore 2", x.restore(2), -2);
        due("restore -1", x.restore(-1), -2);
        due("restore 1", x.restore(1), -5);
        x.nights(50);
        Calls.tell(x, ROADS);
        x.feed(1, 2, 3, 4, 5);
        x.numbers(0, 0, 3);
        x.steal(0);
        due("restore 0", x.restore(0), 0);
        long[] want = {3, 0, 0, 6, 11, 2, 1, 0, 20, 4};
        for (int what = 0; what < 10; what++) {
            due("count " + what, x.count(what), want[what]);
        }
        due("trays stay", x.write(0, 2, 1), 1);
        due("no law of the other coast", x.by(0, 2), 3);
        due("undo", x.undo(1), -3);
        due("again", x.restore(0), 0);
        x.coast(0);
        Calls.tell(x, SINKING);
        x.image(1);
        x.restore(0);
        x.restore(1);
        due("laws come back", x.by(0, 0), 3);
        due("bare", x.bare(), 4);
        x.night(0);
        x.image(1);
        x.night(0);
        x.restore(1);
        due("in place of the other one", x.count(4), 3);
        BeaconDelay y = new BeaconDelay();
        y.image(0);
        Calls.tell(y, PLAIN);
        due("of no coast", y.restore(0), 0);
        due("hills", y.count(0), 0);
        due("lines", y.count(9), 0);
    }

    private static void count() {
        Calls.promise("45 count");
        BeaconDelay x = Calls.coastOf(ROADS);
        x.feed(1, 2, 3, 4, 5);
        x.nights(2);
        x.steal(0);
        x.weather(8);
        // 2t 3 1 becomes 3 2t 2, then 4 3 1t; by hand 3t 3 1t.
        long[] want = {3, 2, 4, 8, 7, 5, 2, 3, 20, 10};
        for (int what = 0; what < 10; what++) {
            due("count " + what, x.count(what), want[what]);
        }
        due("count 10", x.count(10), -1);
        due("count -1", x.count(-1), -1);
    }
}
