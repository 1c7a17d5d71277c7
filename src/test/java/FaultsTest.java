import java.nio.charset.StandardCharsets;
import java.util.Random;

/** Faults of texts: by hand, and drawn ones against the second reader. */
public final class FaultsTest {
    private static final String[] PIECES = {"coast", "weather", "hill", "stack", "fear", "gap", "took", "village", "needs", "road",
        "carries", "takes", "adds", "if", "then", "else", "end", "west", "seen", "not", "or", "and", "0", "4", "5", "9", "10", "999",
        "1000", "0001", ";", ":", "+", "-", "*", "(", ")", "[", "]", "=", "<", ">", "x", "hills", "Hill", ",", "\t", "\n", " ", "!", "\u00e9", "\0"};

    public static void main(String[] args) {
        byHand();
        drawn(args.length > 0 ? Integer.parseInt(args[0]) : 6000, args.length > 1 ? Integer.parseInt(args[1]) : 1);
        Calls.end();
    }

    private static void is(String text, int kind, int place) {
        Calls.promise("FAULTS of " + text);
        BeaconDelay x = new BeaconDelay();
        Calls.due("coast", Calls.tell(x, text), -30 - kind);
        Calls.due("fault 0", x.fault(0), kind);
        Calls.due("fault 1", x.fault(1), place);
        Calls.due("hills", x.count(0), 0);
        Calls.due("tape", x.count(8), 0);
        SecondReader second = new SecondReader(text.getBytes(StandardCharsets.ISO_8859_1));
        Calls.due("second reader: kind", second.kind, kind);
        Calls.due("second reader: place", second.place, place);
    }

    private static void byHand() {
        String head = "coast weather 1;";
        String hill = "hill stack 0 fear 0;";
        String village = "village needs 1;";
        String road = "road 0 0 carries 1;";
        is("", 2, 0);
        is("  \n ", 2, 4);
        is("hill", 2, 0);
        is("coast", 2, 5);
        is("coast ", 2, 6);
        is("coast weather", 2, 13);
        is("coast weather ;", 2, 14);
        is("coast weather 1  ", 2, 17);
        is("coast weather 10;", 3, 14);
        is("coast weather 1000;", 1, 14);
        is("coast weather 1;,", 1, 16);
        is("Coast weather 1;", 1, 0);
        is("coast\tweather 1;", 1, 5);
        is("coasts weather 1;", 2, 0);
        is("coast weather 1;;", 2, 16);
        is(head + head, 2, 16);
        is(head + "hill stack 5 fear 10;", 3, 27);
        is(head + "hill stack 0 fear 0 gap 10;", 3, 40);
        is(head + "hill stack 0 fear 0 gap took;", 2, 40);
        is(head + "hill stack 0 fear 0 took 1;", 2, 41);
        is(head + "hill fear 0 stack 0;", 2, 21);
        is(head + hill.repeat(5), 4, 96);
        is(head + hill.repeat(4) + "hill bad", 4, 96);
        is(head + village.repeat(5), 4, 80);
        is(head + hill + village + road.repeat(9), 4, 52 + 8 * 19);
        is(head + road, 3, 21);
        is(head + hill + road, 3, 43);
        is(head + village + road, 3, 37);
        is(head + hill + village + "road 1 0 carries 1;", 3, 57);
        is(head + hill + village + "road 0 1 carries 1;", 3, 59);
        is(head + hill + village + "road 0 0 carries 10;", 3, 69);
        is(head + "takes : 1;", 2, 25);
        is(head + "takes : (1 = 1);", 2, 27);
        is(head + "takes : [1];", 2, 26);
        is(head + "takes : 1 = 1 = 1;", 2, 30);
        is(head + "takes : not;", 2, 27);
        is(head + "adds : not 1;", 2, 23);
        is(head + "adds : [1];", 2, 23);
        is(head + "adds : -1;", 2, 23);
        is(head + "adds : 1 +;", 2, 26);
        is(head + "adds : if 1 then 2 else 3 end;", 2, 28);
        is(head + "adds : if 1 = 1 then 2 end;", 2, 39);
        is(head + "adds : 1 2;", 2, 25);
        is(head + "adds : gap;", 2, 23);
        is(head + "adds : ((((((1));", 2, 32);
        is(head + "adds : (((((((1", 4, 29);
        is(head + "takes : not not not not not not not 1 = 1;", 4, 48);
        is(head + "takes : [[[[[[[1 = 1;", 4, 30);
        is(head + "takes : not [ if (1) = 1 then (((if 1 = 1 then 1", 4, 16 + 33);
        is(head + "adds : ((((((not", 2, 29);
        is(head + "adds : if if if if if if if 1 = 1", 4, 23 + 18);
        is(head + "adds :" + " if 1 = 1 then".repeat(7), 4, 23 + 6 * 14);
        is(head + "adds :" + " if 1 = 1 then 1 else".repeat(7), 4, 23 + 6 * 21);
        is(head + "adds :" + " (1 +".repeat(7), 4, 23 + 6 * 5);
        is(head + "takes : [1 = 1 and [1 = 1 or not [not (1 + if (", 4, 16 + 43);
        is(head + "z", 2, 16);
        is(head + "{", 1, 16);
        is(head + "`", 1, 16);
        is(head + "/", 1, 16);
        is(head + "adds : 0000;", 1, 23);
        is(head + "adds : 1", 2, 24);
        is(head + "adds : \u00e9;", 1, 23);
        good(head + "adds : ((((((1)))))) + ((((((1))))));", 2);
        good(head + "takes : not not not not not not 1 = 1 and not not not not not not 1 = 1;", 2);
        good("\n coast\nweather 1\n;\n", 1);
        good(head + hill.repeat(4) + village.repeat(4) + road.repeat(8), 17);
        good("coast weather1;hill stack4fear9took gap9;adds:if stack=1then 2else 3end;", 3);
    }

    private static void good(String text, int lines) {
        Calls.promise("a text without fault " + text);
        BeaconDelay x = new BeaconDelay();
        Calls.due("coast", Calls.tell(x, text), lines);
        Calls.due("fault 0", x.fault(0), 0);
        Calls.due("fault 1", x.fault(1), -1);
        Calls.due("second reader", new SecondReader(text.getBytes(StandardCharsets.ISO_8859_1)).kind, 0);
    }

    private static void drawn(int times, int seed) {
        Random random = new Random(seed);
        int[] kinds = new int[5];
        for (int i = 0; i < times && Calls.wrongSoFar() < 40; i++) {
            String text = spoiled(random, new CoastText(random).text);
            byte[] bytes = text.getBytes(StandardCharsets.ISO_8859_1);
            BeaconDelay x = new BeaconDelay();
            int answer = Calls.tell(x, text);
            SecondReader second = new SecondReader(bytes);
            Calls.promise("drawn text " + text);
            if (second.kind != 0) {
                Calls.due("coast", answer, -30 - second.kind);
            } else {
                Calls.holds("coast", answer > 0);
            }
            Calls.due("fault 0", x.fault(0), second.kind);
            Calls.due("fault 1", x.fault(1), second.place);
            kinds[second.kind]++;
        }
        for (int kind = 0; kind < kinds.length; kind++) {
            Calls.holds("some texts of kind " + kind, kinds[kind] > 0);
        }
    }

    private static String spoiled(Random random, String text) {
        StringBuilder out = new StringBuilder(text);
        for (int n = random.nextInt(3); n >= 0; n--) {
            int at = random.nextInt(out.length() + 1);
            String piece = PIECES[random.nextInt(PIECES.length)];
            int kind = random.nextInt(8);
            if (kind == 0) {
                out.setLength(at);
            } else if (kind < 3 && at < out.length()) {
                out.deleteCharAt(at);
            } else if (kind < 5) {
                out.insert(at, " " + piece + " ");
            } else if (kind == 5) {
                out.insert(at, piece);
            } else if (kind == 6) {
                int end = text.indexOf(';', Math.min(at, text.length()));
                String again = text.substring(Math.min(at, text.length()), end < 0 ? text.length() : end + 1);
                out.insert(at, again);
            } else if (out.indexOf(";", at) >= 0) {
                int line = out.indexOf(";", at) + 1;
                int from = random.nextInt(text.length());
                int begin = text.lastIndexOf(';', from) + 1;
                int end = text.indexOf(';', from);
                String copied = text.substring(begin, end < 0 ? text.length() : end + 1);
                for (int i = random.nextInt(5); i >= 0; i--) {
                    out.insert(line, copied);
                }
            }
            if (out.length() > 900) {
                out.setLength(900);
            }
        }
        return out.toString();
    }
}
