/** All that an object can be made to show, told as one text; the object is used up by it. */
final class Fingerprint {
    private final BeaconDelay x;
    private final StringBuilder out = new StringBuilder();

    private Fingerprint(BeaconDelay x) {
        this.x = x;
    }

    static String of(BeaconDelay x) {
        Fingerprint all = new Fingerprint(x);
        all.now();
        all.coast();
        all.trays();
        all.past();
        all.image(0);
        all.image(1);
        all.tape();
        all.places();
        return all.out.toString();
    }

    private void say(String name, long answer) {
        out.append(name).append(' ').append(answer).append(", ");
    }

    private void now() {
        for (int what = 0; what < 10; what++) {
            say("count " + what, x.count(what));
        }
        for (int h = 0; h < 4; h++) {
            say("stack", x.hill(h, 0));
            say("took", x.hill(h, 2));
            say("by", x.by(0, h));
        }
    }

    private void coast() {
        for (int h = 0; h < 4; h++) {
            say("fear", x.hill(h, 1));
            say("gap", x.hill(h, 3));
            say("by fog", x.by(h, 3));
            say("takes", x.takes(0, h));
            say("village", x.village(h));
        }
        say("wood", x.wood());
        say("needed", x.needed());
        say("fault", x.fault(0));
        say("its place", x.fault(1));
    }

    private void trays() {
        for (int t = 0; t < 4; t++) {
            for (int what = 0; what < 4; what++) {
                say("judge", x.judge(t, what));
            }
            say("high", x.high(t, 0));
        }
    }

    private void past() {
        for (int i = 0; i < 11; i++) {
            say("undo", x.undo(1));
            say("weather", x.count(3));
            say("stacks", x.count(4));
            say("took", x.count(5));
            say("nights", x.count(6));
        }
    }

    private void image(int i) {
        say("restore " + i, x.restore(i));
        now();
    }

    private void tape() {
        say("coast", x.coast(x.count(8)));
        say("fault", x.fault(0));
        now();
    }

    /** How many numbers a tray has, and of which sort. */
    private void places() {
        for (int t = 0; t < 4; t++) {
            for (int i : new int[] {0, 1, 3, 7, 8, 9, 39, 40}) {
                say("write " + t + " " + i, x.write(t, i, 0x123456789abcdef0L));
            }
        }
    }
}
