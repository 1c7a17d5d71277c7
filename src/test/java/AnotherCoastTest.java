/**
 * Another coast on the same object, by coast(), restore() or weather(): each call answers as on a new object,
 * whatever was found out ahead.
 */
public final class AnotherCoastTest {
    private static final String HILLS = "hill stack 3 fear 1 took;hill stack 2 fear 4;hill stack 1 fear 0 gap 2;";
    // The same STACKS, who TOOK and WEATHER in all but the last ones, so that but the laws tell them apart.
    private static final String[] COASTS = {
        HILLS,
        HILLS + "takes : not 1 = 2;",
        HILLS + "takes : 1 = 2;",
        HILLS + "takes : not not not 1 = 2;adds : stack;",
        HILLS + "takes : not 1 = 1;adds : stack;",
        HILLS + "adds : 4 - stack;",
        HILLS + "takes : seen = 0;adds : west;",
        HILLS + "takes : stack > west;adds : if weather > 4 then fear else 3 end;",
        HILLS + "takes : hill = 0;adds : if seen = 0 then stack - 1 else stack + 1 end;",
        HILLS + "takes : [ 1 = 2 or stack = 4 ] and not [ seen = 1 and weather = 2 ];adds : ( ( stack + 1 ) * 2 - west ) * if fear > 0 then 1 else 2 end;",
        "hill stack 3 fear 1 took;hill stack 2 fear 4;takes : hill = 0;adds : 0;",
        "hill stack 3 fear 1 took;takes : stack > 1;adds : 4;",
        "",
        HILLS + "hill stack 4 fear 9;takes : weather > west;village needs 3;road 2 0 carries 9;road 3 0 carries 1;",
    };

    public static void main(String[] args) {
        String[] due = new String[COASTS.length];
        for (int i = 0; i < COASTS.length; i++) {
            due[i] = looked(Calls.coastOf(text(i)));
            for (int j = 0; j < i; j++) {
                Calls.holds("coasts " + i + " and " + j + " can be told apart", !due[i].equals(due[j]));
            }
        }
        byText(due);
        byImage(due);
        byWeather();
        manyTexts();
        Calls.end();
    }

    private static String text(int i) {
        return "coast weather 3;" + COASTS[i];
    }

    private static void byText(String[] due) {
        Calls.promise("3 another coast by its text");
        for (int i = 0; i < COASTS.length; i++) {
            for (int j = 0; j < COASTS.length; j++) {
                BeaconDelay x = Calls.coastOf(text(i));
                looked(x);
                Calls.tell(x, text(j));
                Calls.due("coast " + j + " behind " + i, looked(x).equals(due[j]) ? 1 : 0, 1);
            }
        }
    }

    private static void byImage(String[] due) {
        Calls.promise("44 another coast by an image");
        for (int i = 0; i < COASTS.length; i++) {
            for (int j = 0; j < COASTS.length; j++) {
                BeaconDelay x = Calls.coastOf(text(i));
                x.image(0);
                Calls.tell(x, text(j));
                x.image(1);
                looked(x);
                x.restore(0);
                Calls.due("coast " + i + " behind " + j, looked(x).equals(due[i]) ? 1 : 0, 1);
                x.restore(1);
                Calls.due("coast " + j + " behind " + i, x.stands() * 100 + x.rests(), Calls.coastOf(text(j)).stands() * 100 + Calls.coastOf(text(j)).rests());
            }
        }
    }

    private static void byWeather() {
        Calls.promise("12 another weather, and deeds");
        for (int i = 0; i < COASTS.length; i++) {
            for (int w : new int[] {0, 2, 9}) {
                String due = looked(Calls.coastOf("coast weather " + w + ";" + COASTS[i]));
                BeaconDelay x = Calls.coastOf(text(i));
                looked(x);
                x.weather(w);
                Calls.due("coast " + i + " in weather " + w, looked(x).equals(due) ? 1 : 0, 1);
                x = Calls.coastOf(text(i));
                String before = looked(x);
                x.weather(w);
                x.stands();
                x.night(0);
                x.keeps(1);
                x.undo(2);
                Calls.due("undone", looked(x).equals(before) ? 1 : 0, 1);
            }
        }
    }

    /** What all calls that look answer; fewer than 170 calls. */
    private static String looked(BeaconDelay x) {
        StringBuilder all = new StringBuilder();
        for (int h = 0; h < 4; h++) {
            for (int k = 0; k < 5; k += 2) {
                all.append(x.soonest(h, k)).append(' ').append(x.way(h, k, 0)).append(' ').append(x.rows(h, k, 3)).append(' ')
                        .append(x.forces(h, k)).append(' ').append(x.best(h, k)).append(' ');
            }
            all.append(x.by(0, h)).append(' ').append(x.by(1, h)).append(' ').append(x.takes(0, h)).append(' ').append(x.takes(2, h)).append(' ')
                    .append(x.lies(h, 7)).append(' ').append(x.reaches(h, 0)).append(' ').append(x.reaches(h, 1)).append(' ')
                    .append(x.chance(h, 2, 3, 0)).append(' ').append(x.lit(h)).append(';');
        }
        for (int k = 1; k < 5; k++) {
            all.append(x.keeps(k)).append(' ');
        }
        all.append(x.round(0)).append(' ').append(x.round(1)).append(' ').append(x.bare()).append(' ').append(x.rests()).append(' ')
                .append(x.stands()).append(' ').append(x.mean(3, 0)).append(' ').append(x.mean(3, 1)).append(' ').append(x.wood()).append(' ')
                .append(x.needed()).append(' ').append(x.brightest()).append(' ').append(x.count(0)).append(' ').append(x.count(9));
        return all.toString();
    }

    /** As many texts as one object can read, each with laws as long as can be. */
    private static void manyTexts() {
        Calls.promise("3 many texts one behind the other");
        BeaconDelay x = new BeaconDelay();
        for (int i = 0; i < 10; i++) {
            StringBuilder text = new StringBuilder("coast weather 0;hill stack 0 fear 0;takes:1=2;adds:" + i % 5);
            while (text.length() < 890) {
                text.append("+0");
            }
            text.append(';');
            Calls.due("lines", Calls.tell(x, text.toString()), 4);
            Calls.due("the law of text " + i, x.by(0, 0), i % 5);
        }
    }
}
