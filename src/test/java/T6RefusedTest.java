import java.util.function.Consumer;
import java.util.function.Supplier;

/** Terms: "A call that throws changes nothing. Of two exceptions the one that it names first is thrown." */
public final class T6RefusedTest {
    private static final int[] FAR_OFF = {Integer.MIN_VALUE, Integer.MAX_VALUE};

    private final Check check;
    private final String name;
    private final Supplier<BayStowage> scene;

    private T6RefusedTest(Check check, String name, Supplier<BayStowage> scene) {
        this.check = check;
        this.name = name;
        this.scene = scene;
    }

    public static void main(String[] args) {
        Check check = new Check("terms, refused calls");
        Voyages.scenes().forEach((name, scene) -> {
            T6RefusedTest test = new T6RefusedTest(check, name, scene);
            test.bays();
            test.plugs();
            test.boxes();
            test.rolls();
            test.movesAndHands();
            test.replays();
            test.slots();
            test.moments();
            test.reports();
        });
        refusedForWhatIsThere(check);
        check.end();
    }

    /** Each argument of its own too small and too large, the others small or large as they may be. */
    private void bays() {
        int[] least = {1, 1, 2, 1, 0, 0};
        int[] most = {3, 3, 4, 200, 2000, 2000};
        for (int which = 0; which < 6; which++) {
            for (int value : new int[] {least[which] - 1, most[which] + 1, FAR_OFF[0], FAR_OFF[1]}) {
                for (int[] others : new int[][] {least, most}) {
                    int[] a = others.clone();
                    a[which] = value;
                    argument("bay with argument " + which + " = " + value,
                            x -> x.bay(a[0], a[1], a[2], a[3], a[4], a[5]));
                }
            }
        }
    }

    private void plugs() {
        for (int stack : new int[] {-1, 3, FAR_OFF[0], FAR_OFF[1]}) {
            argument("plug(" + stack + ", true)", x -> x.plug(stack, true));
            argument("plug(" + stack + ", false)", x -> x.plug(stack, false));
        }
    }

    private void boxes() {
        int[][] bad = {
            {-1, 1, 1, 0}, {0, 0, 1, 0}, {1, 0, 1, 0}, {0, 4, 1, 0}, {FAR_OFF[0], 1, 1, 0}, {0, FAR_OFF[1], 1, 0},
            {0, 1, 0, 0}, {0, 1, 41, 0}, {0, 1, FAR_OFF[0], 0}, {0, 1, FAR_OFF[1], 0},
            {0, 1, 1, -1}, {0, 1, 1, 4}, {0, 1, 1, FAR_OFF[0]}, {0, 1, 1, FAR_OFF[1]},
        };
        for (int[] a : bad) {
            // Also when five were booked: a wrong argument is named before that.
            argument("box(" + a[0] + ", " + a[1] + ", " + a[2] + ", " + a[3] + ")",
                    x -> x.box(a[0], a[1], a[2], a[3]));
        }
    }

    private void rolls() {
        for (int box : new int[] {-1, 5, FAR_OFF[0], FAR_OFF[1]}) {
            argument("roll(" + box + ")", x -> x.roll(box));
        }
    }

    /** Also with an argument that is wrong besides: the index is named before that. */
    private void movesAndHands() {
        for (int i : new int[] {-1, scene.get().moves(), FAR_OFF[0], FAR_OFF[1]}) {
            for (int other : new int[] {0, -1, 3, 4, FAR_OFF[0], FAR_OFF[1]}) {
                index("move(" + i + ", " + other + ")", x -> x.move(i, other));
                index("hand(" + i + ", " + other + ")", x -> x.hand(i, other));
            }
        }
        int last = scene.get().moves() - 1;
        for (int i = 0; i <= last; i++) {
            int there = i;
            for (int what : new int[] {-1, 4, FAR_OFF[0], FAR_OFF[1]}) {
                argument("move(" + i + ", " + what + ")", x -> x.move(there, what));
            }
            for (int stack : new int[] {-1, 3, FAR_OFF[0], FAR_OFF[1]}) {
                argument("hand(" + i + ", " + stack + ")", x -> x.hand(there, stack));
            }
        }
    }

    private void replays() {
        for (int n : new int[] {-1, scene.get().moves() + 1, FAR_OFF[0], FAR_OFF[1]}) {
            argument("replay(" + n + ")", x -> x.replay(n));
        }
    }

    private void slots() {
        for (int bad : new int[] {-1, 3, FAR_OFF[0], FAR_OFF[1]}) {
            argument("slot(" + bad + ", 0)", x -> x.slot(bad, 0));
            argument("slot(0, " + bad + ")", x -> x.slot(0, bad));
        }
    }

    private void moments() {
        for (int what : new int[] {-1, 6, FAR_OFF[0], FAR_OFF[1]}) {
            argument("moment(" + what + ")", x -> x.moment(what));
        }
    }

    private void reports() {
        for (int port : new int[] {-1, 4, FAR_OFF[0], FAR_OFF[1]}) {
            argument("report(" + port + ", 0)", x -> x.report(port, 0));
        }
        for (int what : new int[] {-1, 3, FAR_OFF[0], FAR_OFF[1]}) {
            argument("report(0, " + what + ")", x -> x.report(0, what));
        }
    }

    /** Calls that another state would take. */
    private static void refusedForWhatIsThere(Check check) {
        check.refusedArgument("plug(1) of one stack", Voyages::oneStackAtPort2, x -> x.plug(1, true));
        check.refusedArgument("plug(2) of two stacks", Voyages::plugged, x -> x.plug(2, true));
        check.refusedArgument("box to port 3 of three", Voyages::twoStacksAtPort0, x -> x.box(0, 3, 1, 0));
        check.refusedArgument("box to port 2 of two", Voyages::booked, x -> x.box(0, 2, 1, 0));
        check.refusedState("box when five were booked", Voyages::fullBook, x -> x.box(0, 1, 1, 0));
        check.refusedArgument("roll of a rolled box", Voyages::booked, x -> x.roll(0));
        check.refusedArgument("roll of the next number", Voyages::booked, x -> x.roll(2));
        check.refusedArgument("roll when none was booked", BayStowage::new, x -> x.roll(0));
        check.refusedArgument("hand of a box taken off", Voyages::oneStackAtPort2, x -> x.hand(3, 0));
        check.refusedArgument("hand of the last box taken off", Voyages::oneStackAtPort2, x -> x.hand(7, 0));
        check.refusedArgument("slot(1, 0) of one stack", Voyages::oneStackAtPort2, x -> x.slot(1, 0));
        check.refusedArgument("slot(0, 2) of two tiers", Voyages::twoStacksAtPort0, x -> x.slot(0, 2));
        check.refusedArgument("slot(0, 1) of one tier", Voyages::booked, x -> x.slot(0, 1));
        check.refusedArgument("report(3, 0) of three ports", Voyages::twoStacksAtPort0, x -> x.report(3, 0));
        check.refusedArgument("report(2, 0) of two ports", Voyages::booked, x -> x.report(2, 0));
        check.refusedState("verify() of a new object", BayStowage::new, BayStowage::verify);
        check.refusedState("verify() of boxes alone", Voyages::booked, BayStowage::verify);
        check.refusedState("verify() with no plan to be found", Voyages::unplannable, BayStowage::verify);
    }

    private void argument(String call, Consumer<BayStowage> run) {
        check.refusedArgument(call + " with " + name, scene, run);
    }

    private void index(String call, Consumer<BayStowage> run) {
        check.refusedIndex(call + " with " + name, scene, run);
    }
}
