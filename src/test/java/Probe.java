import java.util.function.IntSupplier;

/** Tells what can be known of an object as a text: objects in the same state give the same one. */
final class Probe {
    private final BayStowage x;
    private final StringBuilder text = new StringBuilder();

    private Probe(BayStowage x) {
        this.x = x;
    }

    /** What can be seen by calls that change nothing. */
    static String seen(BayStowage x) {
        Probe probe = new Probe(x);
        probe.look();
        return probe.text.toString();
    }

    /** Also what comes out by using the object up: its limits, plugs, boxes and how many it has booked. */
    static String all(BayStowage x) {
        Probe probe = new Probe(x);
        probe.look();
        probe.tell("plan", x::plan);
        probe.look();
        for (int box = 0; box < 6; box++) {
            probe.tell("box", () -> x.box(0, 1, 1, 1));
        }
        probe.tell("plan", x::plan);
        for (int box = 0; box < 6; box++) {
            int number = box;
            probe.tell("roll", () -> done(() -> x.roll(number)));
        }
        for (int stack = 0; stack < 4; stack++) {
            int number = stack;
            probe.tell("plug", () -> done(() -> x.plug(number, true)));
        }
        probe.tell("plan", x::plan);
        return probe.text.toString();
    }

    private void look() {
        tell("moves", x::moves);
        for (int i = 0; i < x.moves(); i++) {
            for (int what = 0; what <= 3; what++) {
                text.append(' ').append(x.move(i, what));
            }
        }
        for (int a = 0; a <= 5; a++) {
            int first = a;
            tell("moment", () -> x.moment(first));
            for (int b = 0; b <= 3; b++) {
                int second = b;
                tell("slot", () -> x.slot(first, second));
                tell("report", () -> x.report(first, second));
            }
        }
        tell("verify", x::verify);
    }

    private void tell(String name, IntSupplier call) {
        text.append(' ').append(name).append(' ');
        try {
            text.append(call.getAsInt());
        } catch (RuntimeException e) {
            text.append(e.getClass().getSimpleName());
        }
    }

    private static int done(Runnable call) {
        call.run();
        return 0;
    }
}
