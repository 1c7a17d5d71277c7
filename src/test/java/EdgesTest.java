/** Answers at the edges of each promise: none, all, the first and the last, now and never. */
public final class EdgesTest {
    private static final int NONE = BeaconDelay.NONE;
    private static final String HEAD = "coast weather 0;";
    private static final String STILL = "takes : 1 = 2;adds : stack;";
    // A HILL that counts on by one a night, from 4 to 0.
    private static final String COUNTING = "takes : 1 = 2;adds : if stack = 4 then 0 else stack + 1 end;";
    // The first HILL counts, each other one when the one west of it was at 4.
    private static final String CARRYING = "takes : 1 = 2;adds : if hill = 0 or west = 4 then if stack = 4 then 0 else stack + 1 end else stack end;";
    // The first man takes every night; the second HILL is as it was ahead, but for what a law tells of FOG.
    private static final String BY_FOG = "hill stack 4 fear 0 took;hill stack 4 fear 0;takes : hill = 0;adds : if seen = 0 then stack - 1 else stack end;";

    public static void main(String[] args) {
        night();
        nights();
        judge();
        perform();
        lies();
        round();
        bare();
        rests();
        soonest();
        rows();
        keeps();
        reaches();
        wood();
        needed();
        high();
        weathers();
        attempt();
        forces();
        chance();
        mean();
        lists();
        count();
        Calls.end();
    }

    private static void due(String call, long got, long want) {
        Calls.due(call, got, want);
    }

    private static BeaconDelay coast(String lines) {
        return Calls.coastOf(HEAD + lines);
    }

    private static String hills(int n, int stack) {
        return ("hill stack " + stack + " fear 0;").repeat(n);
    }

    private static void night() {
        Calls.promise("9 night: who TOOK, as bits");
        for (int bits = 0; bits < 16; bits++) {
            StringBuilder lines = new StringBuilder();
            for (int h = 0; h < 4; h++) {
                lines.append("hill stack 1 fear ").append(bits >> h & 1).append(';');
            }
            BeaconDelay x = coast(lines + "takes : fear = 1;");
            due("night", x.night(0), bits);
            due("count 5", x.count(5), bits);
            due("stacks", x.count(4), 2 * (4 - Integer.bitCount(bits)));
            due("again", x.night(3), bits);
        }
    }

    private static void nights() {
        Calls.promise("10 nights: 1 to 99, who TOOK in the last one");
        String lines = "hill stack 0 fear 0;takes : stack = 3;";
        for (int n : new int[] {1, 2, 3, 4, 5, 98, 99}) {
            BeaconDelay x = coast(lines);
            BeaconDelay y = coast(lines);
            int last = 0;
            for (int i = 0; i < n; i++) {
                last = y.night(0);
            }
            due("nights " + n, x.nights(n), last);
            due("stack", x.hill(0, 0), y.hill(0, 0));
            due("nights", x.count(6), n);
            due("one call", x.count(7), 1);
        }
        due("nights 0", coast(lines).nights(0), -3);
        due("nights 100", coast(lines).nights(100), -3);
    }

    private static void judge() {
        Calls.promise("14 judge: the first place that can't be");
        for (int n : new int[] {0, 1, 2, 39, 40}) {
            for (int bad = -1; bad <= n; bad++) {
                BeaconDelay x = coast(hills(4, 0));
                x.numbers(1, 0, n);
                if (bad >= 0 && bad < n) {
                    x.write(1, bad, 4);
                    x.write(1, n - 1, 4);
                }
                boolean is = bad < 0 || bad >= n;
                int done = is ? n : bad;
                due(n + " deeds, bad at " + bad, x.judge(1, 0), is ? NONE : bad);
                due("why", x.judge(1, 1), is ? 0 : 1);
                due("stacks then", x.judge(1, 2), 4 * Math.min(4, done));
                due("who took then", x.judge(1, 3), 0);
                due("nothing is done", x.count(4) + x.count(6) + x.count(7), 0);
                due("perform", x.perform(1), done);
                due("stacks", x.count(4), 4 * Math.min(4, done));
                due("nights", x.count(6), done);
                due("calls", x.count(7), done > 0 ? 1 : 0);
            }
        }
        Calls.promise("14 judge: all STACKS together, who TOOK");
        BeaconDelay x = coast(hills(4, 4));
        Calls.tray(x, 0);
        due("16 at most", x.judge(0, 2), 16);
        due("none took", x.judge(0, 3), 0);
        Calls.tray(x, 0, 10, 11, 12, 13);
        due("12 then", x.judge(0, 2), 12);
        due("all took", x.judge(0, 3), 15);
        Calls.tray(x, 0, 10, 10, 10, 10, 10, 11);
        due("the fifth can't be", x.judge(0, 0), 4);
        due("the stack is 0", x.judge(0, 1), 2);
        due("12 then", x.judge(0, 2), 12);
        due("the first took", x.judge(0, 3), 1);
        Calls.tray(x, 0, 29, 14);
        due("no such hill", x.judge(0, 0), 1);
        due("no such hill", x.judge(0, 1), 1);
        due("the weather stays", x.count(3), 0);
    }

    private static void perform() {
        Calls.promise("15 perform: they are done, till one can't be");
        BeaconDelay x = coast(hills(2, 1));
        Calls.tray(x, 0, 10, 10, 0);
        due("perform", x.perform(0), 1);
        due("stacks", x.count(4), 1);
        due("nights", x.count(6), 0);
        Calls.tray(x, 0, 29, 20, 25, 30);
        due("perform", x.perform(0), 3);
        due("weather", x.count(3), 5);
        due("calls", x.count(7), 2);
        due("undo", x.undo(1), 1);
        due("weather", x.count(3), 0);
        Calls.tray(x, 0, 1, 2);
        due("perform", x.perform(0), 1);
        due("nights", x.count(6), 1);
    }

    private static void lies() {
        Calls.promise("17 lies: behind 0 to 99,999 NIGHTS");
        BeaconDelay x = coast(hills(3, 0) + CARRYING);
        BeaconDelay y = coast(hills(3, 0) + CARRYING);
        for (int n = 0; n <= 130; n++) {
            for (int h = 0; h < 3; h++) {
                due("lies " + h + " " + n, coast(hills(3, 0) + CARRYING).lies(h, n), y.hill(h, 0));
            }
            y.night(0);
        }
        for (int n = 99990; n <= 99999; n++) {
            due("the first comes round by five, " + n, x.lies(0, n), n % 5);
        }
        due("100000", x.lies(0, 100000), -3);
        due("-1", x.lies(0, -1), -3);
        due("nothing is done", x.count(6), 0);
        x = coast(hills(1, 4) + STILL);
        due("at rest, 0", x.lies(0, 0), 4);
        due("at rest, 99999", x.lies(0, 99999), 4);
        Calls.promise("17 lies: not yet come round");
        x = coast("hill stack 0 fear 0;takes : 1 = 2;adds : if stack < 3 then stack + 1 else 7 - stack end;");
        int[] due = {0, 1, 2, 3, 4, 3, 4};
        for (int n = 0; n < due.length; n++) {
            due("lies 0 " + n, x.lies(0, n), due[n]);
        }
        due("round 0", x.round(0), 3);
        due("round 1", x.round(1), 2);
        due("odd", x.lies(0, 99999), 3);
        due("even", x.lies(0, 99998), 4);
    }

    private static void round() {
        Calls.promise("18 round");
        for (int s = 0; s <= 4; s++) {
            BeaconDelay x = coast("hill stack " + s + " fear 0;");
            due("till it is full", x.round(0), 4 - s);
            due("then it stays", x.round(1), 1);
            x = coast("hill stack " + s + " fear 0;" + COUNTING);
            due("at once", x.round(0), 0);
            due("by five", x.round(1), 5);
            x = coast("hill stack " + s + " fear 0 took;" + COUNTING);
            due("who took is no more, so one night", x.round(0), 1);
            due("by five", x.round(1), 5);
        }
        due("the longest of such", coast(hills(4, 0) + CARRYING).round(1), 125);
        Calls.promise("18 round: by CALM alone, though by FOG in the first NIGHT it would come round otherwise");
        BeaconDelay y = coast("hill stack 4 fear 0 took;hill stack 1 fear 0;takes : 1 = 2;"
                + "adds : if hill = 0 then 4 else if seen = 1 or stack = 0 then 0 else if stack = 4 then 1 else stack + 1 end end end;");
        due("round 0", y.round(0), 1);
        due("round 1", y.round(1), 1);
        y.night(1);
        due("round 0", y.round(0), 0);
        due("round 1", y.round(1), 4);
        Calls.promise("18 round: by the weather");
        due("by weathers", rounds(3), 1);
        due("by weathers", rounds(4), 5);
    }

    private static int rounds(int weather) {
        BeaconDelay x = coast("hill stack 0 fear 0;takes : 1 = 2;adds : if weather > 3 and stack = 4 then 0 else stack + 1 end;");
        x.weather(weather);
        return x.round(1);
    }

    private static void bare() {
        Calls.promise("19 bare: first, or never");
        for (int s = 0; s <= 4; s++) {
            due("counting from " + s, coast("hill stack " + s + " fear 0;" + COUNTING).bare(), (5 - s) % 5);
            due("at rest at " + s, coast("hill stack " + s + " fear 0;" + STILL).bare(), s == 0 ? 0 : NONE);
            due("rising from " + s, coast("hill stack " + s + " fear 0;").bare(), s == 0 ? 0 : NONE);
            due("two that count", coast("hill stack " + s + " fear 0;hill stack 3 fear 0;" + COUNTING).bare(), s == 3 ? 2 : NONE);
            due("who took does not count", coast("hill stack " + s + " fear 0 took;takes : 1 = 1;").bare(), s);
        }
        // All are bare once only, on the way to where it comes round.
        due("in passing", coast("hill stack 2 fear 0;takes : stack = 1;adds : if stack = 2 then 1 else 3 end;").bare(), 2);
        due("all of four", coast("hill stack 4 fear 0;hill stack 0 fear 0;hill stack 1 fear 0;hill stack 3 fear 0;takes : 1 = 1;").bare(), 4);
    }

    private static void rests() {
        Calls.promise("20 rests: of all ways");
        int[] fives = {1, 5, 25, 125, 625};
        for (int n = 0; n <= 4; n++) {
            due("all stays", coast(hills(n, 1) + STILL).rests(), fives[n]);
            due("all rise", coast(hills(n, 1)).rests(), 1);
            due("all take", coast(hills(n, 1) + "takes : 1 = 1;").rests(), 1);
            due("none rests", coast(hills(n, 1) + COUNTING).rests(), n == 0 ? 1 : 0);
        }
        // The first man takes for ever at 0, so the second sees it and takes, too; or none takes and each STACK may be.
        due("two kinds", coast(hills(2, 1) + "takes : seen = 1 or hill = 0 and stack = 0;adds : stack;").rests(), 1 + 20);
    }

    private static void soonest() {
        Calls.promise("21 soonest, 22 way");
        BeaconDelay x = coast("hill stack 2 fear 0;");
        int[] due = {NONE, NONE, 0, 1, 2};
        for (int k = 0; k <= 4; k++) {
            due("soonest " + k, x.soonest(0, k), due[k]);
            for (int i = 0; i < 4; i++) {
                due("way " + k + " " + i, x.way(0, k, i), i < due[k] ? 0 : NONE);
            }
            due("way " + k + " far", x.way(0, k, Integer.MAX_VALUE), NONE);
            due("way " + k + " -1", x.way(0, k, -1), -3);
        }
        x = coast(BY_FOG);
        for (int k = 0; k <= 4; k++) {
            due("soonest " + k, x.soonest(1, k), 4 - k);
            for (int i = 0; i <= 5; i++) {
                due("way " + k + " " + i, x.way(1, k, i), i < 4 - k ? 1 : NONE);
            }
            due("of the first", x.soonest(0, k), 4 - k);
            due("of like rows the first", x.way(0, k, 0), k == 4 ? NONE : 0);
        }
        Calls.promise("21 soonest: far off");
        x = coast(hills(4, 0) + CARRYING);
        // The second is at 4 behind 20 NIGHTS, the third goes on from then to the 25th, and is at 4 behind 24.
        due("the third at 1", x.soonest(2, 1), 21);
        due("the fourth at 1", x.soonest(3, 1), 25);
        due("the fourth at 4", x.soonest(3, 4), 100);
        due("its last night", x.way(3, 4, 99), 0);
        due("behind it", x.way(3, 4, 100), NONE);
    }

    private static void rows() {
        Calls.promise("23 rows: 0 to 12 NIGHTS");
        long all = 1;
        BeaconDelay x = coast(hills(4, 4));
        BeaconDelay y = coast(hills(1, 4));
        for (int n = 0; n <= 12; n++) {
            due("rows " + n, x.rows(3, 4, n), all);
            due("rows " + n, x.rows(3, 3, n), 0);
            due("one hill, rows " + n, y.rows(0, 4, n), 1);
            all *= 4;
        }
        due("rows -1", x.rows(3, 4, -1), -3);
        due("rows 13", x.rows(3, 4, 13), -3);
        x = coast(BY_FOG);
        // Of n NIGHTS those with FOG are chosen: the second is 4 less so many high, 0 at least.
        for (int n = 0; n <= 12; n++) {
            long sum = 0;
            for (int k = 1; k <= 4; k++) {
                due("rows 1 " + k + " " + n, x.rows(1, k, n), choose(n, 4 - k));
                sum += choose(n, 4 - k);
            }
            due("rows 1 0 " + n, x.rows(1, 0, n), (1L << n) - sum);
        }
    }

    private static long choose(int n, int k) {
        long all = 1;
        for (int i = 0; i < k; i++) {
            all = all * (n - i) / (i + 1);
        }
        return k > n ? 0 : all;
    }

    private static void keeps() {
        Calls.promise("24 keeps: the most NIGHTS, or for ever");
        for (int s = 0; s <= 4; s++) {
            for (int k = 0; k <= 4; k++) {
                String hill = "hill stack " + s + " fear 0;";
                due(s + " sinking, keeps " + k, coast(hill + "takes : 1 = 1;").keeps(k), k == 0 ? NONE : Math.max(0, s - k));
                due(s + " at rest, keeps " + k, coast(hill + STILL).keeps(k), s >= k ? NONE : 0);
                due(s + " rising, keeps " + k, coast(hill).keeps(k), s + 1 >= k ? NONE : 0);
                due(s + " counting, keeps " + k, coast(hill + COUNTING).keeps(k), k == 0 ? NONE : (s + 1) % 5 < k ? 0 : 4 - s);
            }
        }
        BeaconDelay x = coast(hills(1, 1));
        due("keeps -1", x.keeps(-1), -3);
        due("keeps 5", x.keeps(5), -3);
        Calls.promise("24 keeps: by the best FOG");
        x = coast("hill stack 4 fear 0 took;hill stack 4 fear 0;takes : hill = 0 and weather = 1;adds : if hill = 1 and seen = 1 then 0 else stack end;");
        due("no man takes, so but the first night tells", x.keeps(4), NONE);
        due("without fog it falls", x.by(0, 1), 0);
        due("all STACKS", coast(hills(1, 4) + hills(1, 0) + STILL).keeps(1), 0);
    }

    private static void reaches() {
        Calls.promise("25 reaches, 26 stands");
        for (int s = 0; s <= 4; s++) {
            BeaconDelay x = coast("hill stack " + s + " fear 0;");
            due("at most", x.reaches(0, 0), 4);
            due("at least, now", x.reaches(0, 1), s);
            due("stands", x.stands(), 5 - s);
            x = coast("hill stack " + s + " fear 0;takes : 1 = 1;");
            due("at most, now", x.reaches(0, 0), s);
            due("at least", x.reaches(0, 1), 0);
            due("stands: he took from the first night on", x.stands(), Math.max(2, s + 1));
            x = coast("hill stack " + s + " fear 0;" + STILL);
            due("at rest", x.reaches(0, 0), s);
            due("at rest", x.reaches(0, 1), s);
            due("stands", x.stands(), 1);
            x = coast("hill stack " + s + " fear 0;" + COUNTING);
            due("counting, but he took", coast("hill stack " + s + " fear 0 took;" + COUNTING).stands(), 6);
            due("counting, but he took", coast("hill stack " + s + " fear 0 took;" + COUNTING).forces(0, (s + 4) % 5), 4);
            due("counting", x.reaches(0, 0), 4);
            due("counting", x.reaches(0, 1), 0);
            due("stands", x.stands(), 5);
        }
        BeaconDelay x = coast(BY_FOG);
        due("by fog alone", x.reaches(1, 1), 0);
        x.undo(1);
        due("stands", x.stands(), 1 + 2 + 3 + 4 + 5);
    }

    private static String market(int stack, int carries, int needs) {
        return "hill stack " + stack + " fear 0;village needs " + needs + ";road 0 0 carries " + carries + ";";
    }

    private static void wood() {
        Calls.promise("29 wood: STACKS, roads, needs at most");
        for (int s = 0; s <= 4; s++) {
            for (int c = 0; c <= 9; c++) {
                for (int n = 0; n <= 9; n++) {
                    BeaconDelay x = coast(market(s, c, n));
                    int least = Math.min(s, Math.min(c, n));
                    due(s + " by " + c + " to " + n, x.wood(), least);
                    due("needed", x.needed(), least > 0 ? 1 : 0);
                }
            }
        }
        due("no road", coast(hills(4, 4) + "village needs 9;").wood(), 0);
        due("no village", coast(hills(4, 4)).wood(), 0);
        due("16 at most", coast(hills(4, 4) + "village needs 9;village needs 9;road 0 0 carries 9;road 1 0 carries 9;road 2 1 carries 9;road 3 1 carries 9;").wood(), 16);
        due("by two of one hill", coast("hill stack 4 fear 0;village needs 2;village needs 1;road 0 0 carries 9;road 0 1 carries 9;").wood(), 3);
        due("a village by two", coast(hills(2, 4) + "village needs 7;road 0 0 carries 9;road 1 0 carries 9;").wood(), 7);
        due("a village by two", coast(hills(2, 3) + "village needs 7;road 0 0 carries 9;road 1 0 carries 9;").wood(), 6);
    }

    private static void needed() {
        Calls.promise("30 needed: without each alone");
        StringBuilder lines = new StringBuilder(hills(4, 4) + "village needs 9;".repeat(4));
        for (int h = 0; h < 4; h++) {
            lines.append("road ").append(h).append(' ').append(h).append(" carries 1;road ").append(h).append(' ').append(3 - h).append(" carries 2;");
        }
        BeaconDelay x = coast(lines.toString());
        due("wood", x.wood(), 12);
        due("all eight", x.needed(), 255);
        x = coast("hill stack 2 fear 0;village needs 9;" + "road 0 0 carries 2;".repeat(8));
        due("wood", x.wood(), 2);
        due("none alone", x.needed(), 0);
        x = coast("hill stack 4 fear 0;village needs 9;road 0 0 carries 2;road 0 0 carries 3;road 0 0 carries 0;");
        due("wood", x.wood(), 4);
        due("those that carry some", x.needed(), 3);
        x = coast("hill stack 4 fear 0;village needs 9;road 0 0 carries 1;road 0 0 carries 4;");
        due("the one that carries all", x.needed(), 2);
        x = coast(hills(1, 0) + "village needs 9;road 0 0 carries 9;");
        due("a bare stack", x.needed(), 0);
    }

    private static void high() {
        Calls.promise("31 high, 32 highBy, 33 fogs: 1 to 8 numbers");
        BeaconDelay x = coast(hills(4, 4));
        long all = 1;
        for (int n = 1; n <= 8; n++) {
            all *= 4;
            x.numbers(0, 0, n);
            for (int i = 0; i < n; i++) {
                x.write(0, i, i % 2 == 0 ? -1 : 4);
            }
            due("high of " + n, x.high(0, 2), all);
            for (int i = 0; i <= 9; i++) {
                due("highBy " + i + " of " + n, x.highBy(0, 2, i), i < n ? 0 : NONE);
                due("fogs " + i + " of " + n, x.fogs(0, 2, i), i < n ? 15 : -7);
            }
            x.write(0, n - 1, 3);
            due("never, of " + n, x.high(0, 2), 0);
            due("highBy", x.highBy(0, 2, 0), NONE);
            due("highBy of the last", x.highBy(0, 2, n - 1), NONE);
            due("fogs", x.fogs(0, 2, 0), 0);
            due("fogs of the last", x.fogs(0, 2, n - 1), 0);
            due("fogs behind it", x.fogs(0, 2, n), -7);
        }
        Calls.promise("31 to 33: the one row that is left");
        x = coast(BY_FOG);
        long[] told = {4, 3, 3, 2, 2, 1, 1, 0};
        int[] row = {0, 1, 0, 1, 0, 1, 0, 1};
        Calls.tray(x, 0, told);
        due("high", x.high(0, 1), 1);
        for (int i = 0; i < 8; i++) {
            due("highBy " + i, x.highBy(0, 1, i), row[i]);
            due("fogs " + i, x.fogs(0, 1, i), 1 << row[i]);
        }
        due("highBy 8", x.highBy(0, 1, 8), NONE);
        due("fogs 8", x.fogs(0, 1, 8), -7);
        x.write(0, 3, -1);
        due("one not known: fog in this night, or in the next", x.high(0, 1), 2);
        x.write(0, 2, -1);
        due("two not known", x.high(0, 1), 3);
        due("the first of them", x.highBy(0, 1, 2), 0);
        due("or", x.fogs(0, 1, 2), 3);
        due("or", x.fogs(0, 1, 3), 3);
        x.write(0, 7, -1);
        due("the last not known", x.high(0, 1), 6);
        due("or", x.fogs(0, 1, 7), 3);
        Calls.promise("31 high: of the told HILL");
        Calls.tray(x, 0, 3);
        due("the first always", x.high(0, 0), 2);
        due("the second by fog", x.high(0, 1), 1);
    }

    private static void weathers() {
        Calls.promise("34 weathers");
        BeaconDelay x = coast("hill stack 0 fear 0;takes : 1 = 2;adds : stack + if weather = 9 then 1 else 0 end;");
        for (int n = 1; n <= 8; n++) {
            x.numbers(0, 0, n);
            due("all but the last", x.weathers(0, 0), 511);
            for (int i = 0; i < n; i++) {
                x.write(0, i, Math.min(4, i + 1));
            }
            due("the last alone", x.weathers(0, 0), 512);
            x.write(0, n - 1, Math.min(4, n + 1) % 4);
            due("none of all", x.weathers(0, 0), 0);
        }
        due("in all weathers", at(coast(hills(1, 4)), 4), 1023);
        due("in none", at(coast(hills(1, 4)), 3), 0);
        for (int w = 0; w <= 9; w++) {
            BeaconDelay y = coast("hill stack 2 fear " + w + ";takes : weather = fear;adds : 3;");
            due("one", at(y, 1), 1 << w);
            due("the others", at(y, 3), 1023 - (1 << w));
            y.weather(w);
            due("the weather now does not count", at(y, 3), 1023 - (1 << w));
        }
    }

    private static int at(BeaconDelay x, long told) {
        Calls.tray(x, 0, told);
        return x.weathers(0, 0);
    }

    private static void attempt() {
        Calls.promise("35 attempt");
        BeaconDelay x = coast(hills(1, 4));
        Calls.tray(x, 0, 4);
        due("one hill: no fog", x.attempt(0, 0), 0);
        Calls.tray(x, 0, 3);
        due("none of the weathers", x.attempt(0, 0), NONE);
        x = coast(hills(4, 4));
        Calls.tray(x, 0, 4, 4, 4, 4, 4, 4, 4, 4);
        due("all nights tell as little: the first", x.attempt(0, 0), 0);
        for (int fog = 1; fog <= 3; fog++) {
            // All men take in all nights; by fog in one gap alone the STACK behind it is as the weather tells.
            x = coast("hill stack 4 fear 0 took;".repeat(4) + "takes : not [ hill = " + fog + " and seen = 0 ];adds : weather;");
            Calls.tray(x, 0, 3);
            due("weathers", x.weathers(0, 0), 1023);
            due("the gap by which the weathers differ", x.attempt(0, 0), fog);
        }
        Calls.promise("35 attempt: who TOOK is not looked at");
        // The first takes in weathers 0 to 4 but stays at 0. Without fog six weathers are alike (three of them took),
        // with fog those five that took are, and fewer of the others.
        x = coast(hills(2, 0) + "takes : hill = 0 and weather < 5;adds : if hill = 0 then 0 else if seen = 1 then if weather < 3 then 0 else 1 end"
                + " else if weather < 5 then 2 else if weather < 8 then 0 else 1 end end end end;");
        Calls.tray(x, 0, 0);
        due("weathers", x.weathers(0, 0), 1023);
        due("five before six", x.attempt(0, 0), 1);
    }

    private static void forces() {
        Calls.promise("36 forces, 37 best");
        for (int s = 0; s <= 4; s++) {
            for (int k = 0; k <= 4; k++) {
                BeaconDelay x = coast("hill stack " + s + " fear 0;");
                due(s + " rising, forces " + k, x.forces(0, k), k >= s ? k - s : NONE);
                due(s + " rising, best " + k, x.best(0, k), k > s ? 0 : NONE);
                x = coast("hill stack " + s + " fear 0;" + COUNTING);
                due(s + " counting, forces " + k, x.forces(0, k), (k - s + 5) % 5);
                due(s + " counting, best " + k, x.best(0, k), k == s ? NONE : 0);
            }
        }
        BeaconDelay x = coast(BY_FOG);
        for (int k = 0; k <= 4; k++) {
            due("each second night is the other one's", x.forces(1, k), k == 4 ? 0 : 2 * (4 - k) - 1);
            due("best", x.best(1, k), k == 4 ? NONE : 1);
        }
        Calls.promise("36 forces: the other one keeps it off for ever");
        x = coast("hill stack 4 fear 0 took;hill stack 2 fear 0;takes : hill = 0;adds : if seen = 0 then stack - 1 else stack + 1 end;");
        due("down by one", x.forces(1, 1), 1);
        due("by fog", x.best(1, 1), 1);
        due("down by two", x.forces(1, 0), NONE);
        due("none", x.best(1, 0), NONE);
        due("up by one", x.forces(1, 3), 1);
        due("by none", x.best(1, 3), 0);
        due("up by two", x.forces(1, 4), NONE);
        due("together it would be", x.soonest(1, 4), 2);
    }

    private static void fraction(String call, long above, long below, long wantAbove, long wantBelow) {
        due(call + " above", above, wantAbove);
        due(call + " below", below, wantBelow);
    }

    private static void chance() {
        Calls.promise("38 chance: 0 to 7 NIGHTS, in lowest terms");
        BeaconDelay x = coast("hill stack 4 fear 0 took;hill stack 4 fear 0;takes : hill = 0;adds : if seen = 0 and stack = 4 then 4 else 0 end;");
        long below = 1;
        for (int n = 0; n <= 7; n++) {
            fraction("fog each night, " + n, x.chance(1, 4, n, 0), x.chance(1, 4, n, 1), 1, below);
            fraction("at least 1, " + n, x.chance(1, 1, n, 0), x.chance(1, 1, n, 1), 1, below);
            fraction("at least 0, " + n, x.chance(1, 0, n, 0), x.chance(1, 0, n, 1), 1, 1);
            below *= 10;
        }
        due("-1", x.chance(1, 4, -1, 0), -3);
        due("8", x.chance(1, 4, 8, 1), -3);
        x = coast("hill stack 4 fear 0 took;hill stack 0 fear 0;takes : hill = 0;adds : if seen = 0 and stack = 0 then 0 else 1 end;");
        below = 1;
        for (int n = 0; n <= 7; n++) {
            fraction("not fog each night, " + n, x.chance(1, 1, n, 0), x.chance(1, 1, n, 1), below - 1, n == 0 ? 1 : below);
            fraction("never 2, " + n, x.chance(1, 2, n, 0), x.chance(1, 2, n, 1), 0, 1);
            below *= 10;
        }
        Calls.promise("38 chance: lots of HILLS that are not there bring no FOG");
        for (int hills = 1; hills <= 4; hills++) {
            // Each man sees the one west of him, but for fog in his gap.
            x = coast("hill stack 4 fear 0 took;".repeat(hills));
            for (int h = 0; h < hills; h++) {
                fraction(hills + " hills, " + h, x.chance(h, 4, 1, 0), x.chance(h, 4, 1, 1), 1, h == 0 ? 1 : 10);
                fraction(hills + " hills, " + h, x.chance(h, 3, 1, 0), x.chance(h, 3, 1, 1), 1, 1);
            }
        }
        Calls.promise("38 chance: in lowest terms");
        x = coast("hill stack 4 fear 0 took;hill stack 4 fear 0 took;hill stack 4 fear 0 took;hill stack 0 fear 0 took;takes : hill < 3;adds : if seen = 0 then 1 else 0 end;");
        fraction("one of ten", x.chance(3, 1, 1, 0), x.chance(3, 1, 1, 1), 1, 10);
        x = coast("hill stack 4 fear 0 took;hill stack 0 fear 0;takes : hill = 0;adds : if seen = 0 then 1 else stack end;");
        fraction("19 of 100", x.chance(1, 1, 2, 0), x.chance(1, 1, 2, 1), 19, 100);
        fraction("271 of 1000", x.chance(1, 1, 3, 0), x.chance(1, 1, 3, 1), 271, 1000);
        x = coast("hill stack 4 fear 0 took;hill stack 0 fear 0;takes : hill = 0;adds : if seen = 0 then 1 - stack else stack end;");
        fraction("18 of 100: once in two nights", x.chance(1, 1, 2, 0), x.chance(1, 1, 2, 1), 9, 50);
        fraction("244 of 1000: once or thrice", x.chance(1, 1, 3, 0), x.chance(1, 1, 3, 1), 61, 250);
    }

    private static void mean() {
        Calls.promise("39 mean: 0 to 7 NIGHTS, in lowest terms");
        for (int s = 0; s <= 4; s++) {
            for (int n = 0; n <= 4; n++) {
                BeaconDelay x = coast(hills(n, s) + STILL);
                for (int nights = 0; nights <= 7; nights++) {
                    fraction(n + " of " + s, x.mean(nights, 0), x.mean(nights, 1), n * s, 1);
                }
            }
        }
        BeaconDelay x = coast("hill stack 0 fear 0 took;hill stack 4 fear 0;takes : hill = 0;adds : if seen = 0 and stack = 4 then 4 else 0 end;");
        long below = 1;
        for (int n = 0; n <= 7; n++) {
            long common = n == 0 ? 1 : n == 1 ? 2 : 4;
            fraction("fog each night, " + n, x.mean(n, 0), x.mean(n, 1), 4 / common, below / common);
            below *= 10;
        }
        due("-1", x.mean(-1, 0), -3);
        due("8", x.mean(8, 1), -3);
        x = coast("hill stack 4 fear 0 took;".repeat(4));
        // Fog in one of three gaps: 1 more.
        fraction("one night", x.mean(1, 0), x.mean(1, 1), 133, 10);
    }

    private static void lists() {
        Calls.promise("42 lists: as many as it has places");
        String lines = "hill stack 0 fear 0;hill stack 3 fear 0;" + CARRYING;
        for (int sort = 0; sort < 4; sort++) {
            for (int n : new int[] {0, 1, 2, 8, 39, 40}) {
                for (int h = 0; h < 2; h++) {
                    BeaconDelay x = coast(lines + hills(2, 0));
                    x.numbers(0, sort, n);
                    x.numbers(1, sort, n);
                    for (int i = 0; i < n; i++) {
                        x.write(0, i, 9);
                        x.write(1, i, x.lies(h, i + 1));
                    }
                    due("lists", x.lists(0, h), n);
                    for (int what = 0; what < 4; what++) {
                        due("judged alike " + what, x.judge(0, what), x.judge(1, what));
                    }
                    if (n >= 1 && n <= 8) {
                        due("it was so", x.weathers(0, h), 1023);
                    }
                    due("nothing is done", x.count(6) + x.count(7), 0);
                }
            }
        }
        Calls.promise("42 lists: behind 1, 2, 3 .. NIGHTS");
        BeaconDelay x = coast("hill stack 0 fear 0;takes : 1 = 2;adds : if weather = 0 then stack + 1 else stack end;");
        x.numbers(3, 0, 6);
        due("lists", x.lists(3, 0), 6);
        due("1 2 3 4 4 4", x.weathers(3, 0), 1);
        due("the first is behind a night", x.high(3, 0), 1);
        due("no such hill", x.lists(3, 1), -2);
        due("no such hill", x.lists(3, -1), -2);
        due("no such tray", x.lists(4, 0), -2);
        due("no such tray", x.lists(-1, 0), -2);
        due("missing", x.lists(2, 0), -6);
        due("the tray stays", x.weathers(3, 0), 1);
    }

    private static void count() {
        Calls.promise("45 count: NONE for others");
        BeaconDelay x = new BeaconDelay();
        BeaconDelay y = coast(hills(4, 4));
        for (int what : new int[] {Integer.MIN_VALUE, -2, -1, 10, 11, Integer.MAX_VALUE}) {
            due("count " + what, x.count(what), NONE);
            due("count " + what, y.count(what), NONE);
        }
        due("16 stacks", y.count(4), 16);
        due("0 stacks", coast(hills(4, 0)).count(4), 0);
        due("all took", coast("hill stack 0 fear 0 took;".repeat(4)).count(5), 15);
        due("the last took", coast(hills(3, 0) + "hill stack 0 fear 0 took;").count(5), 8);
    }
}
