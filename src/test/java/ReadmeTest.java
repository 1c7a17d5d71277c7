import java.io.IOException;
import java.lang.reflect.InvocationTargetException;
import java.lang.reflect.Method;
import java.lang.reflect.Modifier;
import java.nio.file.Files;
import java.nio.file.Path;
import java.util.HashMap;
import java.util.Map;
import java.util.Set;
import java.util.TreeSet;
import java.util.regex.Matcher;
import java.util.regex.Pattern;

/** README.md shows each call of the class, and what it says that they answer is so. */
public final class ReadmeTest {
    private static final Pattern TEXT = Pattern.compile("```text\n(.*?)```", Pattern.DOTALL);
    private static final Pattern CALL = Pattern.compile("x\\.(\\w+)\\(([-\\d, ]*)\\); +// (-?\\d+)(?:: .+)?");
    private static final Pattern TELL = Pattern.compile("tell\\(x, text\\); +// (-?\\d+)(?:: .+)?");

    private final Map<String, Method> face = new HashMap<>();
    private final Set<String> shown = new TreeSet<>();
    private final String text;
    private BeaconDelay x;

    private ReadmeTest(String readme) {
        Matcher told = TEXT.matcher(readme);
        text = told.find() ? told.group(1) : "";
        for (Method m : BeaconDelay.class.getDeclaredMethods()) {
            if (Modifier.isPublic(m.getModifiers())) {
                face.put(m.getName(), m);
            }
        }
    }

    public static void main(String[] args) throws IOException, IllegalAccessException, InvocationTargetException {
        Calls.promise("README.md");
        String readme = Files.readString(Path.of("README.md"));
        new ReadmeTest(readme).run(readme);
        Calls.end();
    }

    private void run(String readme) throws IllegalAccessException, InvocationTargetException {
        for (String line : readme.split("\n")) {
            if (line.startsWith("BeaconDelay x = new BeaconDelay();")) {
                x = new BeaconDelay();
            } else if (line.startsWith("tell(")) {
                tell(line);
            } else if (line.startsWith("x.")) {
                call(line);
            }
        }
        Calls.holds("each call is shown, and no other: " + shown, shown.equals(new TreeSet<>(face.keySet())));
    }

    private void tell(String line) {
        Matcher m = TELL.matcher(line);
        boolean fits = x != null && m.matches();
        Calls.holds("a coast is told: " + line, fits);
        if (fits) {
            Calls.due(line, Calls.tell(x, text), Long.parseLong(m.group(1)));
        }
    }

    private void call(String line) throws IllegalAccessException, InvocationTargetException {
        Matcher m = CALL.matcher(line);
        boolean fits = x != null && m.matches() && face.containsKey(m.group(1));
        Calls.holds("a call with its answer: " + line, fits);
        if (fits) {
            Method method = face.get(m.group(1));
            shown.add(method.getName());
            Calls.due(line, ((Number) method.invoke(x, arguments(method, m.group(2)))).longValue(), Long.parseLong(m.group(3)));
        }
    }

    private static Object[] arguments(Method method, String told) {
        String[] parts = told.isEmpty() ? new String[0] : told.split(", ");
        Object[] all = new Object[parts.length];
        for (int i = 0; i < all.length; i++) {
            boolean isLong = method.getParameterTypes()[i] == long.class;
            all[i] = isLong ? (Object) Long.valueOf(parts[i]) : (Object) Integer.valueOf(parts[i]);
        }
        return all;
    }
}
