import java.nio.charset.StandardCharsets;

/** What the tests share: a coast fed as a text, and answers compared with those that are due. */
final class Calls {
    private static int wrong;
    private static int asked;
    private static String promise = "";

    private Calls() {
    }

    static void promise(String name) {
        promise = name;
    }

    static void due(String call, long got, long want) {
        asked++;
        if (got != want) {
            wrong++;
            if (wrong <= 40) {
                System.out.println(promise + ": " + call + " answered " + got + ", due is " + want);
            }
        }
    }

    static void holds(String what, boolean so) {
        due(what, so ? 1 : 0, 1);
    }

    static int wrongSoFar() {
        return wrong;
    }

    static void feedAll(BeaconDelay x, byte[] bytes) {
        for (int i = 0; i < bytes.length; i += 20) {
            int[] five = new int[5];
            for (int j = 0; j < 20; j++) {
                int b = i + j < bytes.length ? bytes[i + j] & 255 : ' ';
                five[j / 4] = five[j / 4] << 8 | b;
            }
            x.feed(five[0], five[1], five[2], five[3], five[4]);
        }
    }

    static int tell(BeaconDelay x, String text) {
        byte[] bytes = text.getBytes(StandardCharsets.ISO_8859_1);
        feedAll(x, bytes);
        return x.coast(bytes.length);
    }

    static BeaconDelay coastOf(String text) {
        BeaconDelay x = new BeaconDelay();
        int lines = tell(x, text);
        holds("coast is read: " + text + " answered " + lines, lines > 0);
        return x;
    }

    static void tray(BeaconDelay x, int tray, long... numbers) {
        x.numbers(tray, 3, numbers.length);
        for (int i = 0; i < numbers.length; i++) {
            x.write(tray, i, numbers[i]);
        }
    }

    static void end() {
        System.out.println(asked + " answers, " + wrong + " not as due");
        if (wrong != 0 || asked == 0) {
            System.exit(1);
        }
    }
}
