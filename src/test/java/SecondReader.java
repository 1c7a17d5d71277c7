import java.util.ArrayList;
import java.util.LinkedHashSet;
import java.util.List;
import java.util.Set;

/**
 * Finds the fault of a text in another way: it holds every row of symbols that may still come,
 * by the grammar as it stands in the document, and sees which of them a token leaves.
 */
final class SecondReader {
    private record Token(int place, String text, boolean isBad) {
        boolean isNumber() {
            return !isBad && Character.isDigit(text.charAt(0));
        }
    }

    int kind;
    int place = -1;
    private int hills;
    private int villages;
    private int roads;

    SecondReader(byte[] text) {
        Set<List<String>> open = new LinkedHashSet<>(List.of(List.of("TEXT")));
        for (Token token : tokens(text)) {
            if (token.isBad) {
                fail(1, token.place);
                return;
            }
            open = expanded(open);
            Set<List<String>> left = new LinkedHashSet<>();
            String met = null;
            for (List<String> row : open) {
                if (!row.isEmpty() && stands(row.get(0), token)) {
                    left.add(row.subList(1, row.size()));
                    met = row.get(0);
                }
            }
            if (left.isEmpty()) {
                fail(2, token.place);
                return;
            }
            if (met.startsWith("N") && Integer.parseInt(token.text) > most(met)) {
                fail(3, token.place);
                return;
            }
            if (tooMany(met, left)) {
                fail(4, token.place);
                return;
            }
            open = left;
        }
        if (!expanded(open).contains(List.<String>of())) {
            fail(2, text.length);
        }
    }

    private void fail(int which, int where) {
        kind = which;
        place = where;
    }

    private static List<Token> tokens(byte[] text) {
        List<Token> found = new ArrayList<>();
        int i = 0;
        while (i < text.length) {
            char c = (char) (text[i] & 255);
            if (c == 10 || c == 32) {
                i++;
                continue;
            }
            int j = i + 1;
            boolean isBad = false;
            if (c >= 'a' && c <= 'z') {
                while (j < text.length && text[j] >= 'a' && text[j] <= 'z') {
                    j++;
                }
            } else if (c >= '0' && c <= '9') {
                while (j < text.length && text[j] >= '0' && text[j] <= '9') {
                    j++;
                }
                isBad = j - i > 3;
            } else {
                isBad = ";:+-*()[]=<>".indexOf(c) < 0;
            }
            found.add(new Token(i, new String(text, i, j - i, java.nio.charset.StandardCharsets.ISO_8859_1), isBad));
            i = j;
        }
        return found;
    }

    private static boolean stands(String symbol, Token token) {
        if (symbol.startsWith("N")) {
            return token.isNumber();
        }
        int at = symbol.indexOf('@');
        return (at < 0 ? symbol : symbol.substring(0, at)).equals(token.text);
    }

    private int most(String symbol) {
        switch (symbol) {
            case "N": return 999;
            case "Nhill": return hills - 1;
            case "Nvillage": return villages - 1;
            default: return Integer.parseInt(symbol.substring(1));
        }
    }

    private boolean tooMany(String met, Set<List<String>> left) {
        switch (met) {
            case "hill@line": return ++hills > 4;
            case "village": return ++villages > 4;
            case "road": return ++roads > 8;
            default: return met.endsWith("@6");
        }
    }

    /** Till every row begins with what a token can be, or is at its end. */
    private static Set<List<String>> expanded(Set<List<String>> rows) {
        Set<List<String>> done = new LinkedHashSet<>();
        List<List<String>> work = new ArrayList<>(rows);
        while (!work.isEmpty()) {
            List<String> row = work.remove(work.size() - 1);
            if (row.isEmpty() || !isRule(row.get(0))) {
                done.add(row);
                continue;
            }
            for (String rule : rules(row.get(0)).split("\\|", -1)) {
                List<String> more = new ArrayList<>();
                for (String symbol : rule.trim().split(" +")) {
                    if (!symbol.isEmpty()) {
                        more.add(symbol);
                    }
                }
                more.addAll(row.subList(1, row.size()));
                work.add(more);
            }
        }
        return done;
    }

    private static boolean isRule(String symbol) {
        return symbol.length() > 1 && Character.isUpperCase(symbol.charAt(0)) && Character.isUpperCase(symbol.charAt(1));
    }

    private static String rules(String symbol) {
        int at = symbol.indexOf('@');
        String name = at < 0 ? symbol : symbol.substring(0, at);
        String d = at < 0 ? "" : symbol.substring(at);
        String e = at < 0 ? "" : "@" + (Integer.parseInt(symbol.substring(at + 1)) + 1);
        switch (name) {
            case "TEXT": return "coast weather N9 ; LINES";
            case "LINES": return "| LINE ; LINES";
            case "LINE": return "hill@line stack N4 fear N9 FLAGS | village needs N9 | road Nhill Nvillage carries N9"
                    + " | takes : TRUTH@0 | adds : SUM@0";
            case "FLAGS": return "| gap N9 FLAGS | took FLAGS";
            case "TRUTH": return "BOTH" + d + " ORS" + d;
            case "ORS": return "| or BOTH" + d + " ORS" + d;
            case "BOTH": return "UNIT" + d + " ANDS" + d;
            case "ANDS": return "| and UNIT" + d + " ANDS" + d;
            case "UNIT": return "not" + d + " UNIT" + e + " | [" + d + " TRUTH" + e + " ] | SUM" + d + " SIGN SUM" + d;
            case "SIGN": return "= | < | >";
            case "SUM": return "TERM" + d + " PLUS" + d;
            case "PLUS": return "| + TERM" + d + " PLUS" + d + " | - TERM" + d + " PLUS" + d;
            case "TERM": return "ATOM" + d + " TIMES" + d;
            case "TIMES": return "| * ATOM" + d + " TIMES" + d;
            case "ATOM": return "N | (" + d + " SUM" + e + " ) | if" + d + " TRUTH" + e + " then SUM" + e + " else SUM" + e + " end"
                    + " | hill | stack | west | seen | fear | weather";
            default: throw new IllegalStateException(symbol);
        }
    }
}
