import java.nio.charset.StandardCharsets;
import java.util.Random;

/** The bounds that the document names for a TEXT: at each of them, and on both sides. */
public final class TextBoundsTest {
    private static final String HEAD = "coast weather 1;";
    private static final String HILL = "hill stack 0 fear 0;";
    private static final String VILLAGE = "village needs 1;";
    private static final String ROAD = "road 0 0 carries 1;";
    private static final String SIGNS = ";:+-*()[]=<>";
    // Every kind of line and of part, so that each place of the grammar is met.
    private static final String ALL = "coast weather 3 ; hill stack 4 fear 9 gap 2 took gap 0 ; hill stack 0 fear 0 ; village needs 9 ;"
            + " road 1 0 carries 9 ; takes : not [ hill = 1 or stack < 2 and west > 3 ] and seen = fear or ( 1 ) = 2 ;"
            + " adds : ( 1 + 2 ) * weather - if stack = 1 then 2 else 3 end ; village needs 0 ;";

    public static void main(String[] args) {
        tape();
        nineHundred();
        firstBytes();
        howMany();
        numbersInLines();
        digits();
        bytes();
        places();
        leastKind();
        within();
        staysWithFault();
        Calls.end();
    }

    private static void fault(String text, int kind, int place) {
        BeaconDelay x = new BeaconDelay();
        Calls.due("coast of " + text, Calls.tell(x, text), -30 - kind);
        Calls.due("kind of " + text, x.fault(0), kind);
        Calls.due("place in " + text, x.fault(1), place);
    }

    private static BeaconDelay good(String text, int lines) {
        BeaconDelay x = new BeaconDelay();
        Calls.due("coast of " + text, Calls.tell(x, text), lines);
        Calls.due("kind of " + text, x.fault(0), 0);
        Calls.due("place in " + text, x.fault(1), -1);
        return x;
    }

    private static void tape() {
        Calls.promise("2 the highest byte of each int comes first");
        byte[] text = (HEAD + "hill stack 4 fear 9;" + "    ").getBytes(StandardCharsets.ISO_8859_1);
        BeaconDelay x = new BeaconDelay();
        for (int i = 0; i < text.length; i += 20) {
            int[] five = new int[5];
            for (int j = 0; j < 5; j++) {
                five[j] = (text[i + 4 * j] << 24) + (text[i + 4 * j + 1] << 16) + (text[i + 4 * j + 2] << 8) + text[i + 4 * j + 3];
            }
            Calls.due("feed", x.feed(five[0], five[1], five[2], five[3], five[4]), i + 20);
        }
        Calls.due("coast", x.coast(36), 2);
        Calls.due("stack", x.hill(0, 0), 4);
        Calls.promise("2 feed: 900 bytes at most");
        for (int i = 1; i <= 46; i++) {
            Calls.due("feed " + i, x.feed(0, 0, 0, 0, 0), i <= 45 ? 20 * i : -5);
            Calls.due("bytes", x.count(8), Math.min(900, 20 * i));
        }
        Calls.due("a byte of 0 begins no token", x.coast(900), -31);
        Calls.due("the tape is empty", x.count(8), 0);
        Calls.due("it can be fed again", x.feed(0, 0, 0, 0, 0), 20);
        Calls.promise("2 bytes of 128 and more");
        x = new BeaconDelay();
        x.feed(-1, -1, -1, -1, -1);
        Calls.due("coast", x.coast(20), -31);
        Calls.due("place", x.fault(1), 0);
    }

    private static void nineHundred() {
        Calls.promise("a TEXT of at most 900 bytes");
        String head = HEAD + HILL + "adds : 3";
        for (int length = 897; length <= 900; length++) {
            StringBuilder text = new StringBuilder(head);
            while (text.length() + 2 < length) {
                text.append("+0");
            }
            if (text.length() + 1 < length) {
                text.append(' ');
            }
            fault(text + " ", 2, length);
            text.append(';');
            Calls.due("bytes", text.length(), length);
            BeaconDelay x = good(text.toString(), 3);
            Calls.due("the law of " + length + " bytes", x.by(0, 0), 3);
        }
        StringBuilder deep = new StringBuilder(HEAD + HILL + "takes:1=1;adds:2;takes:1=2;");
        while (deep.length() + 7 <= 900) {
            deep.append("adds:4;");
        }
        int lines = 6 + (deep.length() - (HEAD + HILL + "takes:1=1;adds:2;takes:1=2;").length()) / 7 - 1;
        BeaconDelay x = good(deep.toString(), lines);
        Calls.due("the last of many laws", x.by(0, 0), 4);
        Calls.due("lines", x.count(9), lines);
        String blanks = "coast weather 9;" + " \n".repeat(442);
        Calls.due("weather", good(blanks, 1).count(3), 9);
    }

    private static void firstBytes() {
        Calls.promise("3 coast: the first n bytes");
        String text = "coast weather 123;hill stack 12 fear 0;";
        int[][] due = {{0, 2, 0}, {4, 2, 0}, {5, 2, 5}, {6, 2, 6}, {12, 2, 6}, {13, 2, 13}, {14, 2, 14}, {15, 2, 15}, {16, 3, 14}, {17, 3, 14}, {18, 3, 14}};
        for (int[] d : due) {
            BeaconDelay x = new BeaconDelay();
            Calls.feedAll(x, text.getBytes(StandardCharsets.ISO_8859_1));
            Calls.due("coast " + d[0], x.coast(d[0]), -30 - d[1]);
            Calls.due("kind, n " + d[0], x.fault(0), d[1]);
            Calls.due("place, n " + d[0], x.fault(1), d[2]);
            Calls.due("the tape is empty", x.count(8), 0);
        }
        text = "coast weather 1;hill stack 4 fear 12;  ";
        int[][] other = {{15, 2, 15}, {16, 0, -1}, {17, 2, 16}, {20, 2, 20}, {28, 2, 28}, {35, 2, 35}, {36, 3, 34}, {40, 3, 34}};
        for (int[] d : other) {
            BeaconDelay x = new BeaconDelay();
            Calls.feedAll(x, text.getBytes(StandardCharsets.ISO_8859_1));
            Calls.due("coast " + d[0], x.coast(d[0]), d[1] == 0 ? 1 : -30 - d[1]);
            Calls.due("place, n " + d[0], x.fault(1), d[2]);
        }
        Calls.promise("3 coast: what was on the tape ahead is not read");
        BeaconDelay x = new BeaconDelay();
        Calls.feedAll(x, (HEAD + HILL + HILL + HILL + HILL).getBytes(StandardCharsets.ISO_8859_1));
        Calls.due("coast", x.coast(16), 1);
        x.feed(0x636f6173, 0x74207765, 0x61746865, 0x7220323b, 0x68696c6c);
        Calls.due("above what there is", x.coast(21), -3);
        Calls.due("a line without an end", x.coast(20), -32);
        Calls.due("its place", x.fault(1), 20);
    }

    private static void howMany() {
        Calls.promise("HILLS, VILLAGES, roads at most");
        for (int n = 0; n <= 4; n++) {
            BeaconDelay x = good(HEAD + HILL.repeat(n) + VILLAGE.repeat(4 - n), 5);
            Calls.due("hills", x.count(0), n);
            Calls.due("villages", x.count(1), 4 - n);
            Calls.due("hill " + (n - 1), x.hill(n - 1, 0), n == 0 ? -2 : 0);
            Calls.due("hill " + n, x.hill(n, 0), -2);
            Calls.due("village " + (3 - n), x.village(3 - n), n == 4 ? -2 : 1);
            Calls.due("village " + (4 - n), x.village(4 - n), -2);
        }
        for (int n = 5; n <= 7; n++) {
            fault(HEAD + HILL.repeat(n), 4, HEAD.length() + 4 * HILL.length());
            fault(HEAD + VILLAGE.repeat(n), 4, HEAD.length() + 4 * VILLAGE.length());
        }
        String all = HEAD + HILL + VILLAGE;
        for (int n = 0; n <= 10; n++) {
            if (n <= 8) {
                Calls.due("roads", good(all + ROAD.repeat(n), 3 + n).count(2), n);
            } else {
                fault(all + ROAD.repeat(n), 4, all.length() + 8 * ROAD.length());
            }
        }
        good(HEAD + HILL.repeat(4) + VILLAGE.repeat(4) + ROAD.repeat(8) + "takes:1=1;adds:1;takes:1=1;adds:1;", 21);
        Calls.promise("4 comes ahead of what is behind it");
        String many = HEAD + HILL.repeat(4) + VILLAGE.repeat(4) + ROAD.repeat(8);
        for (String line : new String[] {"hill", "hill stack 9", "hill ,", "village", "village needs 1000;", "road", "road 9 9 carries 99;"}) {
            fault(many + line, 4, many.length());
        }
        Calls.due("a hill within a law is none of them", good(HEAD + HILL.repeat(4) + "adds : hill + hill;", 6).by(0, 3), 4);
    }

    /** What is told with %s in it may be 0 to most, and begins at the place of %s. */
    private static void bound(String text, int most) {
        int place = text.indexOf("%s");
        int lines = text.split(";").length;
        for (int v = 0; v <= 12; v++) {
            for (String told : new String[] {"" + v, "0" + v, v < 10 ? "00" + v : "0" + v}) {
                if (v <= most) {
                    good(text.replace("%s", told), lines);
                } else {
                    fault(text.replace("%s", told), 3, place);
                }
            }
        }
        fault(text.replace("%s", "99"), 3, place);
        fault(text.replace("%s", "999"), 3, place);
        fault(text.replace("%s", "1000"), 1, place);
        fault(text.replace("%s", "0000"), 1, place);
        fault(text.replace("%s", "x"), 2, place);
        fault(text.replace("%s", "-1"), 2, place);
    }

    private static void numbersInLines() {
        Calls.promise("3 an N out of its bounds");
        bound("coast weather %s;", 9);
        bound(HEAD + "hill stack %s fear 0;", 4);
        bound(HEAD + "hill stack 0 fear %s;", 9);
        bound(HEAD + "hill stack 0 fear 0 gap %s;", 9);
        bound(HEAD + "hill stack 0 fear 0 took gap 3 gap %s took;", 9);
        bound(HEAD + "village needs %s;", 9);
        bound(HEAD + HILL + VILLAGE + "road 0 0 carries %s;", 9);
        for (int told = 0; told <= 4; told++) {
            bound(HEAD + HILL.repeat(told) + VILLAGE + "road %s 0 carries 1;", told - 1);
        }
        for (int told = 0; told <= 4; told++) {
            bound(HEAD + VILLAGE.repeat(told) + HILL + "road 0 %s carries 1;", told - 1);
        }
        Calls.promise("a HILL, a VILLAGE told ahead");
        fault(HEAD + HILL + VILLAGE + "road 1 0 carries 1;" + HILL, 3, HEAD.length() + HILL.length() + VILLAGE.length() + 5);
        fault(HEAD + HILL + VILLAGE + "road 0 1 carries 1;" + VILLAGE, 3, HEAD.length() + HILL.length() + VILLAGE.length() + 7);
        Calls.promise("what is told");
        for (int v = 0; v <= 9; v++) {
            BeaconDelay x = good("coast weather " + v + ";hill stack " + v % 5 + " fear " + v + " gap " + v + ";village needs " + v
                    + ";hill stack 4 fear 0;village needs 9;road 1 1 carries " + v + ";", 6);
            Calls.due("weather", x.count(3), v);
            Calls.due("stack", x.hill(0, 0), v % 5);
            Calls.due("fear", x.hill(0, 1), v);
            Calls.due("gap", x.hill(0, 3), v);
            Calls.due("needs", x.village(0), v);
            Calls.due("carries", x.wood(), Math.min(4, v));
        }
    }

    private static void digits() {
        Calls.promise("N: 1 to 3 digits");
        String[] good = {"0", "00", "000", "1", "9", "10", "99", "100", "999", "001", "010"};
        for (String n : good) {
            BeaconDelay x = good(HEAD + HILL + "takes : " + n + " = " + Integer.parseInt(n) + " ;adds : 1;", 4);
            Calls.due("is " + n, x.takes(0, 0), 1);
            x = good(HEAD + HILL + "takes:" + n + "<" + Math.min(999, Integer.parseInt(n) + 1) + ";", 3);
            Calls.due("is less, " + n, x.takes(0, 0), n.equals("999") ? 0 : 1);
        }
        for (String n : new String[] {"0000", "0001", "1000", "9999", "00000", "12345678901234567890", "4294967297"}) {
            fault(HEAD + "adds : " + n + ";", 1, 23);
            fault(HEAD + "adds : 1 " + n + ";", 1, 25);
            fault(HEAD + n, 1, 16);
            fault(n, 1, 0);
            fault(HEAD + HILL.repeat(4) + n, 1, 96);
        }
        fault(HEAD + "adds : 123 4;", 2, 27);
        fault(HEAD + "adds : 12\n34;", 2, 26);
    }

    private static void bytes() {
        Calls.promise("TOKENS: what each byte is");
        for (int b = 0; b < 256; b++) {
            String c = "" + (char) b;
            boolean isBlank = b == 10 || b == 32;
            boolean isLetter = b >= 97 && b <= 122;
            boolean isDigit = b >= 48 && b <= 57;
            boolean isSign = SIGNS.indexOf(b) >= 0;
            int kind = isBlank ? 0 : isLetter || isDigit || isSign ? 2 : 1;
            byteAt(c + HEAD, kind, 0);
            byteAt("coast" + c + "weather 1;", kind, isLetter ? 0 : 5);
            byteAt(HEAD + c, kind, 16);
            byteAt(HEAD + c + HILL, kind, 16);
            byteAt(HEAD + "hill stack 0 fear 0" + c + ";", isDigit ? 0 : kind, b == ';' ? 36 : 35);
            boolean joins = b == '+' || b == '-' || b == '*' || isDigit;
            byteAt(HEAD + "adds:1" + c + "2;", joins ? 0 : isBlank ? 2 : kind, isBlank || b == ';' ? 23 : 22);
            boolean compares = b == '=' || b == '<' || b == '>';
            byteAt(HEAD + "takes:1" + c + "2;", compares ? 0 : joins || isBlank ? 2 : kind, joins ? 25 : isBlank ? 24 : 23);
        }
    }

    private static void byteAt(String text, int kind, int place) {
        if (kind == 0) {
            BeaconDelay x = new BeaconDelay();
            Calls.holds("coast of " + text, Calls.tell(x, text) > 0);
            Calls.due("place in " + text, x.fault(1), -1);
        } else {
            fault(text, kind, place);
        }
    }

    private static void places() {
        Calls.promise("2 it can't stand there");
        String[] tokens = ALL.split(" ");
        good(ALL, 8);
        for (int i = 0; i < tokens.length; i++) {
            StringBuilder ahead = new StringBuilder();
            int lines = 0;
            for (int j = 0; j < i; j++) {
                ahead.append(tokens[j]).append(' ');
                lines += tokens[j].equals(";") ? 1 : 0;
            }
            int place = ahead.length();
            boolean isLineEnd = i > 0 && tokens[i - 1].equals(";");
            if (isLineEnd) {
                good(ahead.toString(), lines);
            } else {
                fault(ahead.toString(), 2, place);
                fault(ahead.toString().trim(), 2, Math.max(0, place - 1));
                fault(ahead + "\n\n", 2, place + 2);
            }
            StringBuilder behind = new StringBuilder();
            for (int j = i + 1; j < tokens.length; j++) {
                behind.append(' ').append(tokens[j]);
            }
            fault(ahead + "," + behind, 1, place);
            fault(ahead + "1000" + behind, 1, place);
            fault(ahead + "Hill" + behind, 1, place);
            fault(ahead + "zz" + behind, 2, place);
            boolean isWord = Character.isLetter(tokens[i].charAt(0));
            fault(ahead + tokens[i] + "s" + behind, 2, isWord ? place : place + tokens[i].length());
            if (i > 0) {
                fault(ahead + "coast" + behind, 2, place);
            }
            if (!tokens[i].equals(":")) {
                fault(ahead + ":" + behind, 2, place);
            }
        }
        Calls.promise("coast must be told first, and once");
        fault(HILL + HEAD, 2, 0);
        fault(VILLAGE, 2, 0);
        fault(";" + HEAD, 2, 0);
        fault(HEAD + HEAD, 2, 16);
        fault(HEAD + HILL + HEAD, 2, 36);
        fault(HEAD + "coast weather 10;", 2, 16);
        Calls.promise("blanks");
        String tight = ALL.replaceAll("(?<![a-z0-9]) | (?![a-z0-9])", "");
        good(tight, 8);
        good(ALL.replace(" ", "\n"), 8);
        good("  " + ALL.replace(" ", "  \n ") + "\n ", 8);
        fault(ALL.replaceFirst(" ", "\t"), 1, 5);
        fault(ALL.replaceFirst(" ", "\r"), 1, 5);
    }

    private static void leastKind() {
        Calls.promise("of one TOKEN the least kind");
        fault(HEAD + HILL.repeat(4) + "1000", 1, 96);
        fault("coast weather 1000;", 1, 14);
        fault(HEAD + "adds : ((((((1000", 1, 29);
        fault(HEAD + "adds : ((((((not", 2, 29);
        fault(HEAD + "adds : (((((([", 2, 29);
        fault(HEAD + "takes : [[[[[[1 if", 2, 32);
        fault(HEAD + "takes : [[[[[[1 (", 2, 32);
        fault(HEAD + "takes : [[[[[[1 = not", 2, 34);
        fault(HEAD + "takes : [[[[[[1 = [", 2, 34);
        fault(HEAD + HILL.repeat(4) + VILLAGE + "village hill", 2, 96 + 16 + 8);
        fault(HEAD + HILL.repeat(4) + "adds : 1 hill", 2, 96 + 9);
        Calls.promise("the first along the text");
        fault("coast weather 10;,", 3, 14);
        fault("coast weather ,10", 1, 14);
        fault(HEAD + "hill stack 5 fear 10 gap 1000,", 3, 27);
        fault(HEAD + "hill stack 4 fear 10 gap 1000,", 3, 34);
        fault(HEAD + "hill stack 4 fear 9 gap 1000,", 1, 40);
        fault(HEAD + "hill stack 4 fear 9 gap 100,", 3, 40);
        fault(HEAD + "hill stack 4 fear 9 gap 9,", 1, 41);
        fault(HEAD + "hill stack 4 fear 9 gap 9", 2, 41);
    }

    private static final String[] KINDS = {"not", "[", "(", "if", "then", "else"};

    /** A truth or a sum of kinds within one another, each one blank behind the one it is within. */
    private static String nested(int[] kinds, int i, boolean isTruth) {
        if (i == kinds.length) {
            return isTruth ? "1 = 1" : "1";
        }
        switch (KINDS[kinds[i]]) {
            case "not": return "not " + nested(kinds, i + 1, true);
            case "[": return "[ " + nested(kinds, i + 1, true) + " ]";
            case "(": return "( " + nested(kinds, i + 1, false) + " )" + (isTruth ? " = 1" : "");
            case "if": return "if " + nested(kinds, i + 1, true) + " then 1 else 0 end" + (isTruth ? " = 1" : "");
            case "then": return "if 1 = 1 then " + nested(kinds, i + 1, false) + " else 0 end" + (isTruth ? " = 1" : "");
            default: return "if 1 = 2 then 0 else " + nested(kinds, i + 1, false) + " end" + (isTruth ? " = 1" : "");
        }
    }

    /** Where the kind at i stands in what nested() tells. */
    private static int placeOf(int[] kinds, int i) {
        int place = 0;
        for (int j = 0; j < i; j++) {
            String kind = KINDS[kinds[j]];
            place += kind.equals("then") ? "if 1 = 1 then ".length() : kind.equals("else") ? "if 1 = 2 then 0 else ".length() : kind.length() + 1;
        }
        return place;
    }

    private static int[] drawn(Random random, int n) {
        int[] kinds = new int[n];
        boolean isTruth = true;
        for (int i = 0; i < n; i++) {
            kinds[i] = isTruth ? random.nextInt(6) : 2 + random.nextInt(4);
            isTruth = kinds[i] < 2 || kinds[i] == 3;
        }
        return kinds;
    }

    private static void within() {
        Calls.promise("at most six of not [ ( if within one another");
        Random random = new Random(7);
        String head = HEAD + HILL + "takes : ";
        for (int times = 0; times < 900; times++) {
            int n = 5 + times % 4;
            int[] kinds = drawn(random, n);
            if (times < 36) {
                java.util.Arrays.fill(kinds, times / 6 % 6);
            }
            String text = head + nested(kinds, 0, true) + ";";
            if (n <= 6) {
                int nots = 0;
                for (int kind : kinds) {
                    nots += kind == 0 ? 1 : 0;
                }
                Calls.holds("a truth of sixes at most", good(text, 3).takes(0, 0) >= 0);
                if (kinds[0] == 0 && nots == n) {
                    Calls.due("nots alone", good(text, 3).takes(0, 0), nots % 2 == 0 ? 1 : 0);
                }
            } else {
                fault(text, 4, head.length() + placeOf(kinds, 6));
            }
        }
        Calls.promise("beside one another they don't count");
        String six = "((((((1))))))";
        Calls.due("sixes", good(HEAD + HILL + "adds : " + six + " + " + six + " * " + six + " - " + six + ";", 3).by(0, 0), 1);
        Calls.due("sixes of truths", good(HEAD + HILL + "takes : [[[[[[1 = 2]]]]]] or not not not not not not 1 = 1 and " + six + " = " + six + ";", 3).takes(0, 0), 1);
        Calls.due("five, then two of one", good(HEAD + HILL + "adds : (((((1) + (1) + (1)))));", 3).by(0, 0), 3);
        fault(HEAD + "adds : (((((1) + ((1))))));".replace("((1))", "(((1)))"), 4, 35);
        Calls.due("not ends with its UNIT", good(HEAD + HILL + "takes : not not not not not not 1 = 1 and not 1 = 2;", 3).takes(0, 0), 1);
        Calls.due("if ends with its end", good(HEAD + HILL + "adds : if if if if if if 1 = 1 then 1 else 2 end = 1 then 1 else 2 end = 1 then 1 else 2 end = 1"
                + " then 1 else 2 end = 1 then 1 else 2 end = 1 then 3 else 2 end + if 1 = 1 then 1 else 0 end;", 3).by(0, 0), 4);
        Calls.promise("each law counts for itself");
        good(HEAD + "takes : [[[[[[1 = 1]]]]]];adds : ((((((1))))));takes : [[[[[[1 = 1]]]]]];", 4);
    }

    private static void staysWithFault() {
        Calls.promise("3 all stays with a FAULT");
        String first = "coast weather 4;hill stack 3 fear 2 took gap 5;hill stack 1 fear 7;village needs 6;road 1 0 carries 3;takes:stack=4;adds:stack+2;";
        String[] bad = {"", " ", ",", "coast", "coast weather 5", "coast weather 10;", "coast weather 5;hill stack 1 fear 1;hill stack 1 fear 1",
            "coast weather 5;" + HILL.repeat(5), "coast weather 5;" + VILLAGE.repeat(5), "coast weather 5;adds : 1;takes : 1 = 1;adds :",
            "coast weather 5;hill stack 0 fear 0;village needs 1;" + ROAD.repeat(9)};
        for (String text : bad) {
            BeaconDelay x = Calls.coastOf(first);
            BeaconDelay y = Calls.coastOf(first);
            for (BeaconDelay z : new BeaconDelay[] {x, y}) {
                z.image(1);
                z.night(1);
                z.steal(0);
                z.weather(7);
                Calls.tray(z, 2, 0, 1, 10);
            }
            Calls.holds("refused: " + text, Calls.tell(x, text) < -30);
            Calls.due("the tape is empty", x.count(8), 0);
            int kind = x.fault(0);
            int place = x.fault(1);
            String due = Fingerprint.of(y).replaceFirst("fault 0, its place -1", "fault " + kind + ", its place " + place);
            Calls.due("all the same behind " + text, due.equals(Fingerprint.of(x)) ? 1 : 0, 1);
        }
        Calls.promise("4 fault: of the latest that was read");
        BeaconDelay x = new BeaconDelay();
        Calls.due("ahead of all", x.fault(0), 0);
        Calls.due("ahead of all", x.fault(1), -1);
        Calls.tell(x, "coast weather 1;hills");
        x.coast(1);
        x.coast(-1);
        x.image(0);
        x.night(0);
        x.restore(0);
        x.feed(0, 0, 0, 0, 0);
        Calls.due("kind", x.fault(0), 2);
        Calls.due("place", x.fault(1), 16);
        for (int what : new int[] {Integer.MIN_VALUE, -2, -1, 2, 3, Integer.MAX_VALUE}) {
            Calls.due("fault " + what, x.fault(what), -1);
        }
        x.coast(20);
        Calls.due("another one", x.fault(0), 1);
        Calls.due("its place", x.fault(1), 0);
        Calls.tell(x, HEAD);
        Calls.due("none", x.fault(0), 0);
        Calls.due("none", x.fault(1), -1);
    }
}
