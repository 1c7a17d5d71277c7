import com.sun.management.ThreadMXBean;
import java.lang.management.ManagementFactory;
import java.lang.reflect.InvocationTargetException;
import java.lang.reflect.Method;
import java.util.Arrays;
import java.util.Comparator;
import java.util.Random;

/** Any arguments in any state: no call throws, wrong ones change nothing, and a run of 512 calls keeps to its room. */
public final class NeverThrowsTest {
    private static final long[] ENDS = {Integer.MIN_VALUE, Integer.MIN_VALUE + 1, -1000, -31, -10, -2, -1, 10, 13, 40, 41, 99, 100, 1000,
        65536, 99999, 100000, 1 << 30, Integer.MAX_VALUE - 1, Integer.MAX_VALUE};
    // All four hills, and much that can be by fog.
    private static final String LIVELY = "coast weather 1;hill stack 4 fear 0 took;hill stack 0 fear 0 took;hill stack 2 fear 0;"
            + "hill stack 0 fear 0;takes:if stack=0 then 0 else if stack=1 then 2 else if stack=2 then 2 else if stack=3 then if seen=1then"
            + " 0else 4 end else if west>2then 4else 3 end end end end end>0;adds:if stack=0 then if seen=1then 3else 4 end else if stack=1"
            + " then if seen=1then 1else 0 end else if stack=2 then if west>3then 2else 1 end else if stack=3 then if seen=1then 1else 2 end"
            + " else west end end end end;";

    public static void main(String[] args) throws IllegalAccessException {
        Method[] face = BeaconDelay.class.getDeclaredMethods();
        Method[] open = Arrays.stream(face).filter(m -> java.lang.reflect.Modifier.isPublic(m.getModifiers()))
                .sorted(Comparator.comparing(Method::getName)).toArray(Method[]::new);
        for (int seed = 0; seed < 150; seed++) {
            Calls.promise("rule 7, by seed " + seed);
            callAll(open, new Random(seed));
        }
        room();
        Calls.end();
    }

    private static void callAll(Method[] open, Random random) throws IllegalAccessException {
        BeaconDelay x = new BeaconDelay();
        if (random.nextInt(5) != 0) {
            Calls.tell(x, new CoastText(random).text);
        }
        for (int i = 0; i < 400; i++) {
            Method m = open[random.nextInt(open.length)];
            Object[] arguments = new Object[m.getParameterCount()];
            for (int a = 0; a < arguments.length; a++) {
                long v = random.nextInt(4) == 0 ? ENDS[random.nextInt(ENDS.length)] : random.nextInt(6);
                if (m.getParameterTypes()[a] == long.class) {
                    arguments[a] = random.nextInt(3) == 0 ? random.nextLong() : v;
                } else {
                    arguments[a] = (int) v;
                }
            }
            String before = shown(x);
            String call = m.getName() + Arrays.toString(arguments);
            try {
                long answer = ((Number) m.invoke(x, arguments)).longValue();
                boolean isNumber = m.getName().equals("write");
                boolean isText = m.getName().equals("coast") && answer < -30;
                if (answer < -1 && !isNumber && !isText) {
                    Calls.holds(call + " answered " + answer + " and changes nothing", before.equals(shown(x)));
                }
            } catch (InvocationTargetException e) {
                Calls.holds(call + " threw " + e.getCause(), false);
            }
        }
    }

    private static String shown(BeaconDelay x) {
        StringBuilder all = new StringBuilder();
        for (int what = 0; what < 10; what++) {
            all.append(x.count(what)).append(' ');
        }
        for (int h = 0; h < 4; h++) {
            all.append(x.hill(h, 0)).append(' ').append(x.hill(h, 1)).append(' ');
        }
        return all.append(x.fault(0)).append(' ').append(x.fault(1)).toString();
    }

    private static void room() {
        Calls.promise("the room");
        ThreadMXBean threads = (ThreadMXBean) ManagementFactory.getThreadMXBean();
        dearRun();
        long before = threads.getCurrentThreadAllocatedBytes();
        dearRun();
        long bytes = threads.getCurrentThreadAllocatedBytes() - before;
        Calls.holds("512 dear calls make " + bytes + " bytes", bytes < 800_000);
    }

    private static void dearRun() {
        BeaconDelay x = new BeaconDelay();
        Calls.tell(x, LIVELY);
        x.numbers(0, 0, 8);
        for (int i = 0; i < 25; i++) {
            x.night(i % 4);
            x.weather(i % 10);
            x.forces(3, i % 5);
            x.best(2, i % 5);
            x.keeps(i % 3);
            x.stands();
            x.rows(3, 2, 12);
            x.chance(3, 2, 7, 0);
            x.mean(7, 1);
            x.high(0, 1);
            x.fogs(0, 1, 3);
            x.highBy(0, 1, 3);
            x.weathers(0, 1);
            x.attempt(0, 1);
            x.rests();
            x.round(0);
            x.lies(1, 99999);
            x.needed();
            x.image(i % 2);
            x.restore(i % 2);
        }
    }
}
