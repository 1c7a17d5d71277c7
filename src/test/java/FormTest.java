import java.io.IOException;
import java.lang.reflect.Constructor;
import java.lang.reflect.Field;
import java.lang.reflect.Method;
import java.lang.reflect.Modifier;
import java.nio.file.Files;
import java.nio.file.Path;
import java.util.ArrayList;
import java.util.Arrays;
import java.util.HashSet;
import java.util.List;
import java.util.Set;
import java.util.TreeSet;
import java.util.regex.Pattern;

/** The face of the class, and rules of LANGUAGE.md that can be seen in its text. */
public final class FormTest {
    private static final String FACE = "int feed(int,int,int,int,int) int coast(int) int fault(int) int hill(int,int) int village(int)"
            + " int takes(int,int) int by(int,int) int night(int) int nights(int) int steal(int) int weather(int) int undo(int)"
            + " int judge(int,int) int perform(int) int century(int,int) int lies(int,int) int round(int) int bare() int rests()"
            + " int soonest(int,int) int way(int,int,int) long rows(int,int,int) int keeps(int) int reaches(int,int) int stands()"
            + " int lit(int) int brightest() int wood() int needed() long high(int,int) int highBy(int,int,int) int fogs(int,int,int)"
            + " int weathers(int,int) int attempt(int,int) int forces(int,int) int best(int,int) int chance(int,int,int,int)"
            + " int mean(int,int) int numbers(int,int,int) long write(int,int,long) int lists(int,int) int image(int)"
            + " int restore(int) int count(int)";

    public static void main(String[] args) throws IOException {
        face();
        classes();
        text(Files.readString(Path.of("src/main/java/BeaconDelay.java")));
        Calls.end();
    }

    private static String signature(Method m) {
        List<String> parameters = new ArrayList<>();
        for (Class<?> type : m.getParameterTypes()) {
            parameters.add(type.getName());
        }
        return m.getReturnType().getName() + " " + m.getName() + "(" + String.join(",", parameters) + ")";
    }

    private static void face() {
        Calls.promise("rule 1");
        Class<?> c = BeaconDelay.class;
        Calls.holds("public and final", Modifier.isPublic(c.getModifiers()) && Modifier.isFinal(c.getModifiers()));
        Set<String> wanted = new TreeSet<>(Arrays.asList(FACE.split("(?<=\\)) ")));
        Set<String> found = new TreeSet<>();
        for (Method m : c.getDeclaredMethods()) {
            if (!Modifier.isPrivate(m.getModifiers())) {
                found.add(signature(m));
                Calls.holds(m.getName() + " is public and no more", m.getModifiers() == Modifier.PUBLIC);
            }
        }
        Calls.holds("the methods of the face: " + found, wanted.equals(found) && wanted.size() == 44);
        for (Field f : c.getDeclaredFields()) {
            boolean isNone = f.getName().equals("NONE");
            Calls.holds("field " + f.getName(), isNone ? Modifier.isPublic(f.getModifiers()) : Modifier.isPrivate(f.getModifiers()));
        }
        Constructor<?>[] all = c.getDeclaredConstructors();
        Calls.holds("one constructor", all.length == 1 && all[0].getParameterCount() == 0 && Modifier.isPublic(all[0].getModifiers()));
    }

    private static void classes() {
        Set<String> faceNames = new HashSet<>();
        for (Method m : BeaconDelay.class.getMethods()) {
            faceNames.add(m.getName());
        }
        List<Class<?>> all = new ArrayList<>(List.of(BeaconDelay.class));
        all.addAll(List.of(BeaconDelay.class.getDeclaredClasses()));
        Calls.promise("rule 11");
        Calls.holds("at most twelve classes", all.size() <= 12);
        for (Class<?> c : all) {
            int fields = 0;
            for (Field f : c.getDeclaredFields()) {
                boolean isStatic = Modifier.isStatic(f.getModifiers());
                fields += isStatic ? 0 : 1;
                Calls.promise("rule 5");
                Calls.holds(c.getName() + "." + f.getName() + " is final", !isStatic || Modifier.isFinal(f.getModifiers()));
            }
            Calls.promise("rule 11");
            Calls.holds(c.getName() + " has some twenty fields: " + fields, fields <= 20);
            for (Method m : c.getDeclaredMethods()) {
                Calls.holds(c.getName() + "." + m.getName() + " has at most seven parameters", m.getParameterCount() <= 7);
                Calls.holds(c.getName() + "." + m.getName() + " is no name of the face",
                        c == BeaconDelay.class && Modifier.isPublic(m.getModifiers()) || !faceNames.contains(m.getName()));
            }
            Calls.promise("rule 2");
            Calls.holds(c.getName() + " is static", c == BeaconDelay.class || Modifier.isStatic(c.getModifiers()));
        }
    }

    private static void text(String text) {
        String code = text.replaceAll("(?s)/\\*.*?\\*/", "").replaceAll("//[^\n]*", "");
        Calls.promise("rules 2, 4, 6, 13");
        for (String word : List.of("throw", "throws", "try", "catch", "finally", "synchronized", "assert", "package", "native", "volatile",
                "hashCode", "toString", "System\\.out", "System\\.exit", "currentTimeMillis", "nanoTime", "Random", "Thread", "Exception",
                "float", "double", "Object", "protected", "interface", "abstract")) {
            Calls.holds("no " + word, !Pattern.compile("\\b" + word + "\\b").matcher(code).find());
        }
        Calls.holds("no lambda, no method reference", !code.contains("->") && !code.contains("::"));
        Calls.holds("signs 1 to 127", text.chars().allMatch(c -> c > 0 && c < 128));
        for (String line : code.split("\n")) {
            if (line.startsWith("import")) {
                Calls.holds(line, line.equals("import java.util.Arrays;"));
            }
        }
        Calls.promise("rule 11");
        String[] lines = text.split("\n");
        for (int i = 0; i < lines.length; i++) {
            String line = lines[i];
            String indent = line.startsWith("        ") ? "        " : "    ";
            boolean isMethod = line.matches("( {4}| {8})[a-z][A-Za-z\\[\\] ]*[( ].*\\) \\{") && !line.matches(" +(if|for|while|switch|else|do)\\b.*");
            if (isMethod) {
                int end = i;
                while (end < lines.length && !lines[end].equals(indent + "}")) {
                    end++;
                }
                Calls.holds("method at line " + (i + 1) + " has at most sixty lines", end - i < 60);
            }
        }
    }
}
