/** The bounds that the document names for all but the TEXT: at each of them, and on both sides. */
public final class BoundsTest {
    private static final String HEAD = "coast weather 0;";
    // 999 999, by numbers of three digits.
    private static final String NEAR = "999 * 999 + 999 + 999";

    public static void main(String[] args) {
        withoutCoast();
        sums();
        choices();
        truths();
        takingDown();
        adding();
        allAtOnce();
        names();
        fog();
        deeds();
        stealing();
        undone();
        wholeCalls();
        lit();
        lightGoesOn();
        trays();
        cut();
        draws();
        centuries();
        images();
        Calls.end();
    }

    private static void due(String call, long got, long want) {
        Calls.due(call, got, want);
    }

    private static String hills(int n, int stack) {
        return ("hill stack " + stack + " fear 0;").repeat(n);
    }

    private static BeaconDelay coast(String lines) {
        return Calls.coastOf(HEAD + lines);
    }

    private static void withoutCoast() {
        Calls.promise("without a TEXT: no HILLS, no VILLAGES, WEATHER 0");
        BeaconDelay x = new BeaconDelay();
        for (int what = 0; what < 10; what++) {
            due("count " + what, x.count(what), 0);
        }
        due("weather", x.weather(9), 0);
        due("weather", x.weather(0), 9);
        due("night", x.night(0), 0);
        due("nights", x.nights(99), 0);
        due("nights", x.count(6), 100);
        due("undo", x.undo(4), 0);
        due("bare at once", x.bare(), 0);
        due("round 0", x.round(0), 0);
        due("round 1", x.round(1), 1);
        due("rests", x.rests(), 1);
        due("stands", x.stands(), 1);
        due("brightest", x.brightest(), -1);
        due("wood", x.wood(), 0);
        due("needed", x.needed(), 0);
        for (int k = 0; k <= 4; k++) {
            due("keeps " + k, x.keeps(k), -1);
        }
        for (int n = 0; n <= 7; n++) {
            due("mean above " + n, x.mean(n, 0), 0);
            due("mean below " + n, x.mean(n, 1), 1);
        }
        x.numbers(0, 0, 2);
        due("two nights", x.perform(0), 2);
        x.write(0, 0, 29);
        x.write(0, 1, 10);
        due("no hill to steal from", x.judge(0, 0), 1);
        due("why", x.judge(0, 1), 1);
    }

    private static void holds(String truth, boolean so) {
        due(truth, coast("hill stack 1 fear 0;takes : " + truth + ";").takes(0, 0), so ? 1 : 0);
    }

    /** Whether a sum is so much, as compared with one less and one more of what is within bounds. */
    private static void isMost(String sum, String sign) {
        holds(sum + " = " + sign + "(" + NEAR + " + 1)", true);
        holds(sum + " - 0 = " + sign + "(" + NEAR + ")", false);
    }

    private static void sums() {
        Calls.promise("each + - * is kept from -1,000,000 to 1,000,000");
        holds(NEAR + " < " + NEAR + " + 1", true);
        holds(NEAR + " + 1 = " + NEAR + " + 2", true);
        holds(NEAR + " + 1 + 1 - 1 = " + NEAR, true);
        holds(NEAR + " + 1 - 1 = " + NEAR, true);
        holds(NEAR + " + 999 - 1 = " + NEAR, true);
        isMost(NEAR + " + 1", "");
        isMost(NEAR + " + 2", "");
        isMost("999 * 999 * 999", "");
        isMost("(999 + 1) * (999 + 1)", "");
        isMost("(999 + 1) * (999 + 2)", "");
        holds("(999 + 1) * 999 < " + NEAR, true);
        isMost("999 * 999 * 999 * 999 * 999 * 999 * 999", "");
        holds("0 - (" + NEAR + ") > 0 - (" + NEAR + ") - 1", true);
        holds("0 - (" + NEAR + ") - 1 = 0 - (" + NEAR + ") - 2", true);
        holds("0 - (" + NEAR + ") - 2 + 1 = 0 - (" + NEAR + ")", true);
        isMost("0 - (" + NEAR + ") - 1", "0 - ");
        isMost("0 - (" + NEAR + ") - 2", "0 - ");
        isMost("(0 - 999) * 999 * 999", "0 - ");
        isMost("(0 - 999) * 999 * 999 * 999 * 999", "0 - ");
        isMost("(0 - 999) * (0 - 999) * 999", "");
        holds("(" + NEAR + " + 1) * (" + NEAR + " + 1) = " + NEAR + " + 1", true);
        holds("(" + NEAR + " + 1) * (0 - (" + NEAR + " + 1)) = 0 - (" + NEAR + " + 1)", true);
        holds("0 - (" + NEAR + " + 1) - (" + NEAR + " + 1) + (" + NEAR + " + 1) = 0", true);
        holds("(" + NEAR + " + 1) + (" + NEAR + " + 1) - (" + NEAR + " + 1) = 0", true);
        // Not kept within an int's bounds alone: 999^4 would wrap around to something else.
        holds("999 * 999 * 999 * 999 > 999", true);
        holds("(0 - 999) * 999 * 999 * 999 < 0", true);
        holds("0 * 999 * 999 * 999 = 0", true);
        holds("(1 - 1) * (0 - 1) = 0", true);
    }

    private static void choices() {
        Calls.promise("if tells the one SUM, if the TRUTH holds, else the other one");
        for (int s = 0; s <= 4; s++) {
            BeaconDelay x = coast("hill stack " + s + " fear 0;takes : 1 = 2;adds : if stack > 1 then if stack < 3 then 1 else 2 end else 3 end;");
            due("stack " + s, x.by(0, 0), s > 1 ? s < 3 ? 1 : 2 : 3);
        }
        holds("if 1 = 1 then 999 * 999 * 999 else 0 end = " + NEAR + " + 1", true);
        holds("3 - if 1 = 2 then 1 else 2 end - 1 = 0", true);
        holds("3 * if 1 = 1 then 1 + 1 else 2 end - 1 = 5", true);
    }

    private static void truths() {
        Calls.promise("= < > and, or, not at their bounds");
        for (int a = 0; a <= 2; a++) {
            for (int b = 0; b <= 2; b++) {
                holds(a + " = " + b, a == b);
                holds(a + " < " + b, a < b);
                holds(a + " > " + b, a > b);
                holds("not " + a + " < " + b, a >= b);
                holds("0 - " + a + " < 0 - " + b, -a < -b);
            }
        }
        for (int bits = 0; bits < 8; bits++) {
            boolean[] is = {(bits & 1) != 0, (bits & 2) != 0, (bits & 4) != 0};
            String[] told = new String[3];
            for (int i = 0; i < 3; i++) {
                told[i] = is[i] ? "1 = 1" : "1 = 2";
            }
            holds(told[0] + " or " + told[1] + " and " + told[2], is[0] || is[1] && is[2]);
            holds(told[0] + " and " + told[1] + " or " + told[2], is[0] && is[1] || is[2]);
            holds("not " + told[0] + " and " + told[1] + " or not " + told[2], !is[0] && is[1] || !is[2]);
            holds("not [ " + told[0] + " and " + told[1] + " ] or " + told[2], !(is[0] && is[1]) || is[2]);
            holds(told[0] + " and [ " + told[1] + " or " + told[2] + " ]", is[0] && (is[1] || is[2]));
            holds(told[0] + " or " + told[1] + " or " + told[2], is[0] || is[1] || is[2]);
            holds(told[0] + " and " + told[1] + " and " + told[2], is[0] && is[1] && is[2]);
        }
    }

    private static void takingDown() {
        Calls.promise("TAKES: the STACK is 1 less, 0 at least");
        for (int s = 0; s <= 4; s++) {
            BeaconDelay x = coast("hill stack " + s + " fear 0;takes : 1 = 1;adds : 4;");
            due("by", x.by(0, 0), Math.max(0, s - 1));
            due("takes", x.takes(0, 0), 1);
            due("night", x.night(0), 1);
            due("stack", x.hill(0, 0), Math.max(0, s - 1));
            due("took", x.hill(0, 2), 1);
        }
        Calls.promise("without the law takes: if seen is 1");
        for (int took = 0; took <= 1; took++) {
            for (int fog = 0; fog <= 1; fog++) {
                BeaconDelay x = coast("hill stack 2 fear 9" + (took == 1 ? " took" : "") + ";hill stack 2 fear 0 took;");
                due("takes " + took + fog, x.takes(fog, 1), took == 1 && fog == 0 ? 1 : 0);
                due("the first never", x.takes(fog, 0), 0);
                due("night " + took + fog, x.night(fog), took == 1 && fog == 0 ? 2 : 0);
            }
        }
    }

    private static void adding() {
        Calls.promise("what the law adds tells, 0 at least, 4 at most");
        String[] sums = {"0 - 999 * 999 * 999", "0 - 999", "0 - 2", "0 - 1", "0", "1", "2", "3", "4", "5", "6", "999", "999 * 999 * 999"};
        int[] told = {0, 0, 0, 0, 0, 1, 2, 3, 4, 4, 4, 4, 4};
        for (int i = 0; i < sums.length; i++) {
            BeaconDelay x = coast("hill stack 2 fear 0 took;takes : 1 = 2;adds : " + sums[i] + ";");
            due("adds : " + sums[i], x.by(0, 0), told[i]);
            due("who took", x.night(0), 0);
            due("stack", x.hill(0, 0), told[i]);
        }
        Calls.promise("without the law adds: 1 more, 4 at most");
        for (int s = 0; s <= 4; s++) {
            due("by", coast("hill stack " + s + " fear 0;").by(0, 0), Math.min(4, s + 1));
            due("by", coast("hill stack " + s + " fear 0;takes : 1 = 2;").by(0, 0), Math.min(4, s + 1));
        }
        Calls.promise("later ones of takes, adds strike");
        due("takes", coast("hill stack 1 fear 0;takes : 1 = 1;takes : 1 = 2;").takes(0, 0), 0);
        due("takes", coast("hill stack 1 fear 0;takes : 1 = 2;takes : 1 = 1;").takes(0, 0), 1);
        due("adds", coast("hill stack 1 fear 0;adds : 4;adds : 3;adds : 0;").by(0, 0), 0);
        due("adds ahead of the hill", coast("adds : 4;hill stack 1 fear 0;").by(0, 0), 4);
        Calls.promise("later ones of gap, took strike");
        BeaconDelay x = coast("hill stack 1 fear 0 gap 3 took gap 0 took;hill stack 1 fear 0 gap 9 gap 8 gap 2;");
        due("gap", x.hill(0, 3), 0);
        due("took", x.hill(0, 2), 1);
        due("gap", x.hill(1, 3), 2);
        due("not took", x.hill(1, 2), 0);
    }

    private static void allAtOnce() {
        Calls.promise("all at once, as all was ahead");
        BeaconDelay x = coast("hill stack 4 fear 0;hill stack 2 fear 0;hill stack 0 fear 0;hill stack 1 fear 0;takes : 1 = 2;adds : west;");
        int[] due = {0, 4, 2, 0};
        x.night(0);
        for (int h = 0; h < 4; h++) {
            due("stack " + h, x.hill(h, 0), due[h]);
        }
        x = coast(hills(1, 4) + hills(3, 4));
        x.steal(0);
        for (int n = 1; n <= 5; n++) {
            due("the word goes on by one hill a night", x.night(0), n < 4 ? 1 << n : 0);
        }
    }

    private static void names() {
        Calls.promise("what hill, stack, west, seen, fear, weather tell");
        BeaconDelay x = Calls.coastOf("coast weather 9;hill stack 4 fear 3 took;hill stack 1 fear 0;hill stack 0 fear 4 took;hill stack 2 fear 1;takes : 1 = 2;adds : 0;");
        String[] names = {"hill", "stack", "west", "seen", "fear"};
        int[][] due = {{0, 1, 2, 3}, {4, 1, 0, 2}, {0, 4, 1, 0}, {0, 1, 0, 1}, {3, 0, 4, 1}};
        for (int i = 0; i < names.length; i++) {
            x = Calls.coastOf("coast weather 9;hill stack 4 fear 3 took;hill stack 1 fear 0;hill stack 0 fear 4 took;hill stack 2 fear 1;takes : 1 = 2;adds : " + names[i] + ";");
            for (int h = 0; h < 4; h++) {
                due(names[i] + " of " + h, x.by(0, h), due[i][h]);
                due(names[i] + " of " + h + " by fog", x.by(3, h), i == 3 && h == 3 ? 0 : due[i][h]);
            }
        }
        for (int w = 0; w <= 9; w++) {
            x = coast("hill stack 0 fear 0;takes : weather = " + w + ";");
            for (int v = 0; v <= 9; v++) {
                x.weather(v);
                due("weather " + v + " is " + w, x.takes(0, 0), v == w ? 1 : 0);
            }
            x = Calls.coastOf("coast weather " + w + ";hill stack 0 fear " + w + ";takes : weather = fear;");
            due("as it was told", x.takes(0, 0), 1);
        }
    }

    private static void fog() {
        Calls.promise("FOG in the GAP of HILL v, v 1 at least");
        for (int n = 0; n <= 4; n++) {
            for (int deed = -1; deed <= 31; deed++) {
                BeaconDelay x = coast(hills(n, 2));
                boolean is = deed == 0 || deed >= 1 && deed < n;
                due(n + " hills, night " + deed, x.night(deed), is ? 0 : -11);
                due("nights", x.count(6), is ? 1 : 0);
                due("can be undone", x.count(7), is ? 1 : 0);
                if (n > 0) {
                    due("takes " + deed, x.takes(deed, n - 1), is ? 0 : -5);
                    due("by " + deed, x.by(deed, n - 1), is ? 4 : -5);
                    due("by " + deed, x.by(deed, n), -2);
                }
            }
        }
        Calls.promise("FOG hides but the HILL west of its GAP");
        String all = "hill stack 4 fear 0 took;".repeat(4);
        for (int fog = 0; fog < 4; fog++) {
            due("fog " + fog, coast(all).night(fog), 14 & ~(fog == 0 ? 0 : 1 << fog));
        }
    }

    private static void deeds() {
        Calls.promise("DEEDS as numbers, why not");
        for (int n = 0; n <= 4; n++) {
            // The last HILL is bare.
            String lines = hills(Math.max(0, n - 1), 2) + (n > 0 ? hills(1, 0) : "");
            for (int v = -2; v <= 31; v++) {
                int why = v == 0 || v >= 20 && v <= 29 ? 0 : v >= 1 && v <= 9 ? v < n ? 0 : 1 : v >= 10 && v <= 19 ? v - 10 < n - 1 ? 0 : v - 10 == n - 1 ? 2 : 1 : 1;
                BeaconDelay x = coast(lines);
                Calls.tray(x, 3, v);
                due(n + " hills, why not " + v, x.judge(3, 1), why);
                due(n + " hills, place of " + v, x.judge(3, 0), why == 0 ? -1 : 0);
                due(n + " hills, perform " + v, x.perform(3), why == 0 ? 1 : 0);
                due("can be undone", x.count(7), why == 0 ? 1 : 0);
                due("nights", x.count(6), v >= 0 && v <= 9 && why == 0 ? 1 : 0);
                due("weather", x.count(3), v >= 20 && v <= 29 ? v - 20 : 0);
                if (v >= 10 && v <= 19) {
                    due("steal " + (v - 10), coast(lines).steal(v - 10), why == 0 ? 1 : -10 - why);
                }
            }
        }
        Calls.promise("DEEDS of 64 bits");
        for (long v : new long[] {1L << 32, (1L << 32) + 10, (1L << 32) + 20, -(1L << 32), Long.MIN_VALUE, Long.MAX_VALUE, 0xffffffffL}) {
            BeaconDelay x = coast(hills(4, 2));
            Calls.tray(x, 0, v);
            due("why not " + v, x.judge(0, 1), 1);
            due("perform " + v, x.perform(0), 0);
        }
    }

    private static void stealing() {
        Calls.promise("to STEAL: its STACK is 1 less, and its man TOOK");
        for (int s = 0; s <= 4; s++) {
            for (int took = 0; took <= 1; took++) {
                BeaconDelay x = coast(hills(1, 3) + "hill stack " + s + " fear 0" + (took == 1 ? " took;" : ";"));
                due("steal", x.steal(1), s == 0 ? -12 : s - 1);
                due("stack", x.hill(1, 0), Math.max(0, s - 1));
                due("took", x.hill(1, 2), s == 0 ? took : 1);
                due("the other one", x.hill(0, 0) * 10 + x.hill(0, 2), 30);
                due("nights", x.count(6), 0);
                due("can be undone", x.count(7), s == 0 ? 0 : 1);
            }
        }
    }

    private static void undone() {
        Calls.promise("10 calls at most can be UNDONE, eldest are forgotten");
        for (int calls = 0; calls <= 13; calls++) {
            for (int n = 0; n <= 12; n++) {
                BeaconDelay x = coast("hill stack 4 fear 0;adds : 0;takes : 1 = 2;");
                for (int i = 1; i <= calls; i++) {
                    x.weather(i % 10);
                }
                int can = Math.min(10, calls);
                due("calls that can be", x.count(7), can);
                boolean is = n >= 1 && n <= can;
                due(calls + " calls, undo " + n, x.undo(n), is ? can - n : -3);
                due("weather", x.count(3), (is ? calls - n : calls) % 10);
                due("calls that still can be", x.count(7), is ? can - n : can);
            }
        }
        Calls.promise("the latest first");
        BeaconDelay x = coast("hill stack 4 fear 0;");
        for (int i = 0; i < 4; i++) {
            x.steal(0);
        }
        for (int i = 1; i <= 4; i++) {
            due("undo", x.undo(1), 4 - i);
            due("stack", x.hill(0, 0), i);
            due("took", x.hill(0, 2), i == 4 ? 0 : 1);
        }
        Calls.promise("what is done behind undo takes the place of what was UNDONE");
        x.weather(1);
        x.weather(2);
        x.weather(3);
        x.undo(2);
        x.weather(7);
        due("calls", x.count(7), 2);
        due("undo", x.undo(1), 1);
        due("weather", x.count(3), 1);
        due("undo", x.undo(1), 0);
        due("weather", x.count(3), 0);
        Calls.promise("behind 10 that were forgotten in part");
        for (int i = 0; i < 25; i++) {
            x.weather(i % 10);
            x.night(0);
        }
        for (int i = 0; i < 5; i++) {
            due("undo", x.undo(2), 8 - 2 * i);
            due("weather", x.count(3), 3 - i < 0 ? 9 : 3 - i);
            due("nights", x.count(6), 24 - i);
        }
        due("no more", x.undo(1), -3);
    }

    private static void wholeCalls() {
        Calls.promise("calls are UNDONE each as a whole: STACKS, who TOOK, WEATHER, NIGHTS");
        BeaconDelay x = coast("hill stack 4 fear 0 took;hill stack 3 fear 0;hill stack 0 fear 0 took;");
        String before = state(x);
        Calls.tray(x, 0, 0, 25, 10, 1, 2, 11, 22, 0);
        for (int i = 0; i < 5; i++) {
            long did = i == 0 ? x.night(1) : i == 1 ? x.nights(3) : i == 2 ? x.perform(0) : i == 3 ? x.century(99, 40) : x.steal(0);
            Calls.holds("call " + i + " did some", did >= 0 && !before.equals(state(x)));
            due("one can be undone", x.count(7), 1);
            due("undo", x.undo(1), 0);
            due("as it was", before.equals(state(x)) ? 1 : 0, 1);
        }
        Calls.promise("calls that did none can't be UNDONE");
        Calls.tray(x, 1);
        due("an empty tray", x.perform(1), 0);
        Calls.tray(x, 1, 12, 0, 0);
        due("a tray that begins with what can't be", x.perform(1), 0);
        due("refused", x.night(3), -11);
        due("refused", x.nights(0), -3);
        due("refused", x.steal(2), -12);
        due("refused", x.weather(10), -11);
        due("refused", x.century(0, 41), -3);
        due("calls", x.count(7), 0);
        due("as it was", before.equals(state(x)) ? 1 : 0, 1);
        Calls.promise("calls that only look, trays, images can't be UNDONE");
        x.judge(0, 2);
        x.numbers(2, 0, 4);
        x.write(2, 0, 1);
        x.lists(2, 0);
        x.image(0);
        x.feed(1, 1, 1, 1, 1);
        x.forces(1, 0);
        due("calls", x.count(7), 0);
    }

    private static String state(BeaconDelay x) {
        StringBuilder all = new StringBuilder();
        for (int what = 3; what <= 6; what++) {
            all.append(x.count(what)).append(' ');
        }
        for (int h = 0; h < 4; h++) {
            all.append(x.hill(h, 0)).append(x.hill(h, 2)).append(' ');
        }
        return all.toString();
    }

    private static void lit() {
        Calls.promise("LIT: the GAP is no more than its STACK, and theirs is 1 at least");
        for (int s = 0; s <= 4; s++) {
            for (int t = 0; t <= 4; t++) {
                for (int gap = 0; gap <= 9; gap++) {
                    BeaconDelay x = coast("hill stack " + s + " fear 0 gap 9;hill stack " + t + " fear 0 gap " + gap + ";");
                    int first = s == 0 ? 0 : gap <= s && t >= 1 ? 3 : 1;
                    int second = t == 0 ? 0 : gap <= t && s >= 1 ? 3 : 2;
                    due(s + " to " + t + " over " + gap, x.lit(0), first);
                    due(t + " back to " + s + " over " + gap, x.lit(1), second);
                    due("brightest", x.brightest(), Integer.bitCount(second) > Integer.bitCount(first) ? 1 : 0);
                }
            }
        }
        Calls.promise("28 brightest: NONE without HILLS alone");
        for (int n = 0; n <= 4; n++) {
            due(n + " bare hills", coast(hills(n, 0)).brightest(), n == 0 ? -1 : 0);
            due(n + " hills", coast(hills(n, 1)).brightest(), n == 0 ? -1 : 0);
        }
        due("the only one that is not bare", coast(hills(3, 0) + hills(1, 1)).brightest(), 3);
        due("the first of two", coast(hills(2, 0) + hills(1, 1) + "hill stack 4 fear 0 gap 9;").brightest(), 2);
    }

    private static void lightGoesOn() {
        Calls.promise("LIT: and so on, by each one's own STACK");
        BeaconDelay x = coast("hill stack 4 fear 0;hill stack 1 fear 0 gap 4;hill stack 2 fear 0;hill stack 3 fear 0 gap 3;");
        int[] due = {7, 6, 6, 14};
        for (int h = 0; h < 4; h++) {
            due("lit " + h, x.lit(h), due[h]);
        }
        due("brightest", x.brightest(), 0);
        x = coast("hill stack 4 fear 0;hill stack 0 fear 0 gap 0;hill stack 4 fear 0 gap 0;hill stack 4 fear 0 gap 4;");
        int[] bare = {1, 0, 12, 12};
        for (int h = 0; h < 4; h++) {
            due("a bare hill between, lit " + h, x.lit(h), bare[h]);
        }
        due("brightest", x.brightest(), 2);
        x = coast("hill stack 1 fear 0;".repeat(4));
        for (int h = 0; h < 4; h++) {
            due("all", x.lit(h), 15);
        }
        x.steal(3);
        due("all but the last", x.lit(0), 7);
    }

    private static void trays() {
        Calls.promise("TRAYS 0 to 3 are MISSING at first, or have 0 to 40 numbers");
        for (int n = -1; n <= 42; n++) {
            BeaconDelay x = new BeaconDelay();
            boolean is = n >= 0 && n <= 40;
            due("numbers " + n, x.numbers(2, 3, n), is ? 0 : -3);
            for (int i = -1; i <= 41; i++) {
                due("write " + i + " of " + n, x.write(2, i, i + 5), !is ? -6 : i >= 0 && i < n ? i + 5 : -7);
            }
            due("others are missing", x.write(1, 0, 0) + x.write(3, 0, 0) + x.write(0, 0, 0), -18);
        }
        Calls.promise("40 a TRAY: all 0, in place of another one");
        BeaconDelay x = coast(hills(2, 4));
        for (int sort = 0; sort < 4; sort++) {
            x.numbers(sort, sort, 40);
            for (int i = 0; i < 40; i++) {
                x.write(sort, i, 99);
            }
            due("can't be", x.judge(sort, 0), 0);
            due("-3, and the tray stays", x.numbers(sort, sort, 41), -3);
            due("-3, and the tray stays", x.numbers(sort, sort, -1), -3);
            due("-2, and the tray stays", x.numbers(sort, 4, 3), -2);
            due("can't be", x.judge(sort, 0), 0);
            due("again", x.numbers(sort, sort, 40), 0);
            due("all 0", x.judge(sort, 0), -1);
        }
    }

    private static void cut() {
        Calls.promise("41 cut to its sort");
        long[] edges = {0, 1, 127, 128, 129, 255, 256, 32767, 32768, 65535, 65536, 2147483647L, 2147483648L, 4294967295L, 4294967296L,
            Long.MAX_VALUE};
        for (int sort = 0; sort < 4; sort++) {
            BeaconDelay x = new BeaconDelay();
            x.numbers(1, sort, 1);
            int bits = 8 << sort;
            for (long edge : edges) {
                for (long v : new long[] {edge, -edge, -edge - 1}) {
                    due(v + " in " + bits + " bits", x.write(1, 0, v), signed(v, bits));
                }
            }
        }
        Calls.promise("what is cut is used as it is there");
        BeaconDelay x = coast(hills(2, 4));
        x.numbers(0, 0, 1);
        due("266 is 10", x.write(0, 0, 266), 10);
        due("to steal", x.perform(0), 1);
        due("stack", x.hill(0, 0), 3);
        x.numbers(0, 0, 1);
        due("255 is NONE", x.write(0, 0, 255), -1);
        due("not known", x.high(0, 0), 2);
        due("65535 is NONE", x.numbers(0, 1, 1) + x.write(0, 0, 65535), -1);
        due("not known", x.high(0, 0), 2);
        due("but no height for calm", x.weathers(0, 0), -3);
    }

    /** By division, so in another way than the class does. */
    private static long signed(long v, int bits) {
        if (bits == 64) {
            return v;
        }
        long all = 1L << bits;
        long rest = Math.floorMod(v, all);
        return rest >= all / 2 ? rest - all : rest;
    }

    private static void draws() {
        Calls.promise("a DRAW: an int wraps around");
        int[] seeds = {0, 1, -1, 2, -2, 12345, Integer.MIN_VALUE, Integer.MIN_VALUE + 1, Integer.MAX_VALUE, Integer.MAX_VALUE - 1, 1 << 30, 65535, 65536,
            -65536, 20261118, -1103515245, 1103515245};
        for (int seed : seeds) {
            for (int times : new int[] {1, 2, 3, 7, 39, 40}) {
                BeaconDelay x = coast(hills(3, 3) + "takes : weather > 4;");
                BeaconDelay y = coast(hills(3, 3) + "takes : weather > 4;");
                due("century " + seed + " " + times, x.century(seed, times), byHand(y, seed, times));
                due("as by hand, " + seed + " " + times, state(x).equals(state(y)) ? 1 : 0, 1);
            }
        }
    }

    /** The same deeds one by one; a draw is worked out in longs, where nothing wraps around. */
    private static int byHand(BeaconDelay y, int seed, int times) {
        long[] x = {seed & 0xffffffffL};
        int could = 0;
        for (int i = 0; i < times; i++) {
            long kind = draw(x) % 6;
            long answer;
            if (kind < 3) {
                answer = y.night(0);
            } else if (kind == 3) {
                answer = y.night((int) (draw(x) % 4));
            } else if (kind == 4) {
                answer = y.steal((int) (draw(x) % 4));
            } else {
                answer = y.weather((int) (draw(x) % 10));
            }
            could += answer >= 0 ? 1 : 0;
        }
        return could;
    }

    private static long draw(long[] x) {
        x[0] = (1103515245L * x[0] % 4294967296L + 12345L) % 4294967296L;
        return x[0] / 65536;
    }

    private static void centuries() {
        Calls.promise("16 century: 1 to 40 times");
        for (int times = -1; times <= 42; times++) {
            BeaconDelay x = coast(hills(4, 4));
            boolean is = times >= 1 && times <= 40;
            int answer = x.century(5, times);
            Calls.holds("century 5 " + times + " answered " + answer, is ? answer >= 0 && answer <= times : answer == -3);
            due("can be undone", x.count(7), is && answer > 0 ? 1 : 0);
        }
        Calls.promise("16 century: what can't be is passed over");
        int less = 0;
        for (int seed = 0; seed < 200; seed++) {
            BeaconDelay x = coast(hills(1, 1));
            BeaconDelay y = coast(hills(1, 1));
            int could = x.century(seed * 7919, 40);
            due("century", could, byHand(y, seed * 7919, 40));
            due("as by hand", state(x).equals(state(y)) ? 1 : 0, 1);
            less += could < 40 ? 1 : 0;
        }
        Calls.holds("some could not be", less > 100);
    }

    private static void images() {
        Calls.promise("IMAGES 0 to 1, none at first");
        BeaconDelay x = coast("hill stack 3 fear 1;");
        for (int i = -1; i <= 2; i++) {
            due("restore " + i, x.restore(i), i < 0 || i > 1 ? -2 : -5);
        }
        x.night(0);
        due("image -1", x.image(-1), -2);
        due("image 2", x.image(2), -2);
        due("still none", x.restore(0), -5);
        due("still none", x.restore(1), -5);
        due("image 1", x.image(1), 0);
        due("none of 0", x.restore(0), -5);
        x.night(0);
        due("image 0", x.image(0), 0);
        due("calls stay", x.count(7), 2);
        x.steal(0);
        Calls.promise("restore: THE COAST, STACKS, who TOOK, WEATHER, NIGHTS; nothing can be UNDONE");
        x.weather(8);
        due("restore 1", x.restore(1), 0);
        due("nights", x.count(6), 1);
        due("weather", x.count(3), 0);
        due("calls", x.count(7), 0);
        due("undo", x.undo(1), -3);
        due("restore 0", x.restore(0), 0);
        due("nights", x.count(6), 2);
        due("took", x.count(5), 0);
        x.night(0);
        due("calls", x.count(7), 1);
        due("undo", x.undo(1), 0);
        due("nights", x.count(6), 2);
        due("as often as one likes", x.restore(1), 0);
        due("nights", x.count(6), 1);
        Calls.promise("restore brings back the coast of then");
        Calls.tell(x, "coast weather 4;hill stack 1 fear 2 took;hill stack 2 fear 3 gap 6;village needs 5;road 1 0 carries 2;takes : 1 = 1;adds : 1;");
        x.image(1);
        x.nights(7);
        due("restore 0", x.restore(0), 0);
        long[] first = {1, 0, 0, 0, 4, 0, 2, 0, 0, 2};
        counts(x, first);
        due("fear", x.hill(0, 1), 1);
        due("takes by its own law", x.takes(0, 0), 0);
        due("no wood", x.wood(), 0);
        due("restore 1", x.restore(1), 0);
        long[] second = {2, 1, 1, 4, 3, 1, 0, 0, 0, 7};
        counts(x, second);
        due("gap", x.hill(1, 3), 6);
        due("takes by its own law", x.takes(0, 0), 1);
        due("wood", x.wood(), 2);
        Calls.promise("restore leaves the tape, trays, the fault, the other image");
        Calls.tell(x, "coast weather 11;");
        x.feed(0x636f6173, 0x74207765, 0x61746865, 0x7220363b, 0x20202020);
        Calls.tray(x, 2, 0, 0, 0);
        due("restore 0", x.restore(0), 0);
        due("tape", x.count(8), 20);
        due("fault", x.fault(0), 3);
        due("place", x.fault(1), 14);
        due("tray", x.perform(2), 3);
        due("coast", x.coast(20), 1);
        due("weather", x.count(3), 6);
        due("restore 1", x.restore(1), 0);
        counts(x, second);
        Calls.promise("an image is as it was when it was made");
        x.image(0);
        x.steal(1);
        x.weather(2);
        x.undo(1);
        x.nights(30);
        due("restore 0", x.restore(0), 0);
        counts(x, second);
    }

    private static void counts(BeaconDelay x, long[] due) {
        for (int what = 0; what < due.length; what++) {
            due("count " + what, x.count(what), due[what]);
        }
    }
}
