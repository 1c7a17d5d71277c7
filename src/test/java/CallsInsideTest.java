import java.io.PrintWriter;
import java.io.StringWriter;
import java.util.ArrayList;
import java.util.HashMap;
import java.util.HashSet;
import java.util.List;
import java.util.Map;
import java.util.Optional;
import java.util.Set;
import java.util.TreeMap;
import java.util.TreeSet;
import java.util.regex.Matcher;
import java.util.regex.Pattern;
import java.util.spi.ToolProvider;

/** What the compiled class calls: only the library that LANGUAGE.md leaves, and not too deep. */
public final class CallsInsideTest {
    private static final Set<String> LIBRARY = Set.of("java/lang/Object.<init>", "java/lang/Math.max", "java/lang/Math.min", "java/lang/Math.abs",
            "java/lang/Integer.bitCount", "java/lang/String.length", "java/lang/String.charAt", "java/lang/String.indexOf",
            "java/lang/System.arraycopy", "java/util/Arrays.fill");
    private static final Set<String> RECURSIVE = Set.of("BeaconDelay$Reader.truth", "BeaconDelay$Reader.both", "BeaconDelay$Reader.unit",
            "BeaconDelay$Reader.sum", "BeaconDelay$Reader.term", "BeaconDelay$Reader.atom");
    private static final Pattern HEADER = Pattern.compile("^  (?:.* )?([\\w$]+)\\(.*\\);$");
    private static final Pattern CALL = Pattern.compile("^ +\\d+: invoke\\w+ .*// (?:Interface)?Method (.*):\\(.*$");

    private final Map<String, Set<String>> calls = new TreeMap<>();
    private final Set<String> outside = new TreeSet<>();
    private final Map<String, Set<String>> reached = new HashMap<>();
    private final Map<String, Integer> depths = new HashMap<>();

    public static void main(String[] args) {
        Optional<ToolProvider> javap = ToolProvider.findFirst("javap");
        if (javap.isEmpty()) {
            System.out.println("there is no javap here, so nothing was looked at");
            return;
        }
        new CallsInsideTest().run(javap.get());
        Calls.end();
    }

    private void run(ToolProvider javap) {
        read(disassembled(javap));
        Calls.holds("methods were found: " + calls.size(), calls.size() > 100);
        Calls.promise("rule 4");
        for (String call : outside) {
            Calls.holds("the library has " + call, LIBRARY.contains(call));
        }
        Calls.promise("rule 8");
        for (String method : calls.keySet()) {
            Calls.due(method + " calls itself", reachedFrom(method).contains(method) ? 1 : 0, RECURSIVE.contains(method) ? 1 : 0);
        }
        Calls.promise("rule 11");
        for (String method : calls.keySet()) {
            Calls.holds(method + " goes " + depth(method) + " deep", depth(method) <= 8);
        }
    }

    private static String disassembled(ToolProvider javap) {
        List<String> args = new ArrayList<>(List.of("-c", "-p", "-cp", System.getProperty("java.class.path"), "BeaconDelay"));
        for (Class<?> c : BeaconDelay.class.getDeclaredClasses()) {
            args.add(c.getName());
        }
        StringWriter out = new StringWriter();
        Calls.due("javap", javap.run(new PrintWriter(out), new PrintWriter(System.err), args.toArray(new String[0])), 0);
        return out.toString();
    }

    private void read(String text) {
        String owner = "";
        String method = "";
        for (String line : text.split("\n")) {
            Matcher header = HEADER.matcher(line);
            Matcher call = CALL.matcher(line);
            if (line.matches("^[a-z].*class [\\w$]+ .*\\{$")) {
                owner = line.replaceAll("^.*class ([\\w$]+) .*$", "$1");
            } else if (header.matches()) {
                String name = header.group(1);
                method = owner + "." + (name.equals(owner) ? "<init>" : name);
                calls.computeIfAbsent(method, m -> new TreeSet<>());
            } else if (call.matches()) {
                String name = call.group(1).replace("\"", "");
                String to = name.contains(".") ? name : owner + "." + name;
                (to.startsWith("BeaconDelay") ? calls.get(method) : outside).add(to);
            } else if (line.contains("invokedynamic")) {
                outside.add(method + " by " + line.trim());
            }
        }
    }

    private Set<String> reachedFrom(String method) {
        return reached.computeIfAbsent(method, start -> {
            Set<String> all = new HashSet<>();
            List<String> open = new ArrayList<>(calls.getOrDefault(start, Set.of()));
            while (!open.isEmpty()) {
                String at = open.remove(open.size() - 1);
                if (all.add(at)) {
                    open.addAll(calls.getOrDefault(at, Set.of()));
                }
            }
            return all;
        });
    }

    /** Methods that call one another count as one. */
    private int depth(String method) {
        Integer known = depths.get(method);
        if (known != null) {
            return known;
        }
        int most = 0;
        Set<String> together = new HashSet<>(Set.of(method));
        for (String other : reachedFrom(method)) {
            if (reachedFrom(other).contains(method)) {
                together.add(other);
            }
        }
        for (String one : together) {
            for (String to : calls.getOrDefault(one, Set.of())) {
                most = together.contains(to) ? most : Math.max(most, depth(to));
            }
        }
        depths.put(method, most + 1);
        return most + 1;
    }
}
