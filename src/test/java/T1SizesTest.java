/** Terms: the sizes of a bay, of a voyage and of a box, each with its last value and the first one beyond. */
public final class T1SizesTest {
    private static final int[] FAR_OFF = {Integer.MIN_VALUE, Integer.MAX_VALUE};

    public static void main(String[] args) {
        Check check = new Check("terms, sizes");
        stacks(check);
        tiers(check);
        ports(check);
        fiveBoxes(check);
        laterPort(check);
        weights(check);
        kinds(check);
        rolledIsNoBox(check);
        check.end();
    }

    /** "1 .. 3 STACKS, numbered from 0" */
    private static void stacks(Check check) {
        for (int stacks : new int[] {1, 2, 3}) {
            BayStowage x = bayOf(stacks, 1, 2);
            check.due("slot(0, 0) of " + stacks + " stacks", BayStowage.NONE, x.slot(0, 0));
            check.due("slot of the last of " + stacks, BayStowage.NONE, x.slot(stacks - 1, 0));
            check.badArgument("slot(-1, 0) of " + stacks, () -> x.slot(-1, 0));
            check.badArgument("slot behind the last of " + stacks, () -> x.slot(stacks, 0));
            check.fits("plug of the last of " + stacks, () -> x.plug(stacks - 1, true));
            check.badArgument("plug behind the last of " + stacks, () -> x.plug(stacks, true));
        }
        for (int stacks : new int[] {0, 4, -1, FAR_OFF[0], FAR_OFF[1]}) {
            check.refusedArgument("bay of " + stacks + " stacks", Voyages::twoStacksAtPort0,
                    x -> x.bay(stacks, 1, 2, 200, 2000, 2000));
        }
    }

    /** "of 1 .. 3 TIERS, from the bottom (0) on" */
    private static void tiers(Check check) {
        for (int tiers : new int[] {1, 2, 3}) {
            BayStowage x = bayOf(1, tiers, 2);
            check.due("slot of the top of " + tiers, BayStowage.NONE, x.slot(0, tiers - 1));
            check.badArgument("slot(0, -1) of " + tiers, () -> x.slot(0, -1));
            check.badArgument("slot above the top of " + tiers, () -> x.slot(0, tiers));
            for (int box = 0; box < tiers; box++) {
                x.box(0, 1, 1, 0);
            }
            check.due("plan() of a full stack of " + tiers, 0, x.plan());
            x.replay(tiers);
            for (int tier = 0; tier < tiers; tier++) {
                check.due("slot(0, " + tier + "): filled from the bottom on", tier, x.slot(0, tier));
            }
            x.box(0, 1, 1, 0);
            check.due("plan() of one box more than " + tiers, BayStowage.NONE, x.plan());
        }
        for (int tiers : new int[] {0, 4, -1, FAR_OFF[0], FAR_OFF[1]}) {
            check.refusedArgument("bay of " + tiers + " tiers", Voyages::twoStacksAtPort0,
                    x -> x.bay(1, tiers, 2, 200, 2000, 2000));
        }
    }

    /** "PORTS are 0, 1, .. (2 to 4 of them)" */
    private static void ports(Check check) {
        for (int ports : new int[] {2, 3, 4}) {
            BayStowage x = bayOf(1, 1, ports);
            check.due("report(0, 0) of " + ports + " ports", 0, x.report(0, 0));
            check.due("report of the last of " + ports, 0, x.report(ports - 1, 0));
            check.badArgument("report(-1, 0) of " + ports, () -> x.report(-1, 0));
            check.badArgument("report behind the last of " + ports, () -> x.report(ports, 0));
            check.due("box to the last of " + ports, 0, x.box(0, ports - 1, 1, 0));
            check.badArgument("box to behind the last of " + ports, () -> x.box(0, ports, 1, 0));
        }
        for (int ports : new int[] {1, 5, 0, -1, FAR_OFF[0], FAR_OFF[1]}) {
            check.refusedArgument("bay of " + ports + " ports", Voyages::twoStacksAtPort0,
                    x -> x.bay(1, 1, ports, 200, 2000, 2000));
        }
    }

    /** "BOXES 0, 1, .. (at most 5 are booked)" */
    private static void fiveBoxes(Check check) {
        BayStowage x = bayOf(3, 3, 2);
        check.due("plan() of no boxes", 0, x.plan());
        check.due("moves() of no boxes", 0, x.moves());
        for (int number = 0; number < 5; number++) {
            check.due("box as number " + number, number, x.box(0, 1, 40, 0));
            check.due("plan() of " + (number + 1) + " boxes", 0, x.plan());
            check.due("moves() of " + (number + 1) + " boxes", 2 * (number + 1), x.moves());
        }
        check.refusedState("a sixth box", Voyages::fullBook, y -> y.box(0, 1, 1, 0));
    }

    /** "a port FROM and a later one TO" */
    private static void laterPort(Check check) {
        for (int from = -1; from <= 4; from++) {
            for (int to = -1; to <= 4; to++) {
                int first = from;
                int last = to;
                String call = "box(" + from + ", " + to + ", 1, 0) of four ports";
                if (from >= 0 && to <= 3 && from < to) {
                    check.due(call, 0, bayOf(1, 1, 4).box(from, to, 1, 0));
                } else {
                    check.refusedArgument(call, Voyages::oneStackAtPort2, x -> x.box(first, last, 1, 0));
                }
            }
        }
        for (int far : FAR_OFF) {
            check.refusedArgument("box from " + far, Voyages::oneStackAtPort2, x -> x.box(far, 1, 1, 0));
            check.refusedArgument("box to " + far, Voyages::oneStackAtPort2, x -> x.box(0, far, 1, 0));
        }
    }

    /** "a weight of 1 .. 40 tonnes" */
    private static void weights(Check check) {
        for (int tonnes : new int[] {1, 2, 39, 40}) {
            BayStowage x = bayOf(1, 1, 2);
            check.due("box of " + tonnes + " tonnes", 0, x.box(0, 1, tonnes, 0));
            x.plan();
            x.replay(1);
            check.due("moment(2): its tonnes", tonnes, x.moment(2));
        }
        for (int tonnes : new int[] {0, 41, -1, FAR_OFF[0], FAR_OFF[1]}) {
            check.refusedArgument("box of " + tonnes + " tonnes", Voyages::oneStackAtPort2,
                    x -> x.box(0, 1, tonnes, 0));
        }
    }

    /** "a KIND: 0 dry, 1 cold, 2 and 3 two classes of danger" */
    private static void kinds(Check check) {
        for (int kind : new int[] {0, 1, 2, 3}) {
            BayStowage x = bayOf(1, 1, 2);
            check.due("box of kind " + kind, 0, x.box(0, 1, 1, kind));
            check.due("plan() without a plug of kind " + kind, kind == 1 ? BayStowage.NONE : 0, x.plan());
        }
        for (int kind : new int[] {-1, 4, 5, FAR_OFF[0], FAR_OFF[1]}) {
            check.refusedArgument("box of kind " + kind, Voyages::oneStackAtPort2, x -> x.box(0, 1, 1, kind));
        }
    }

    /** "A box that is ROLLED is no box any more." */
    private static void rolledIsNoBox(Check check) {
        BayStowage x = bayOf(1, 1, 2);
        x.box(0, 1, 1, 0);
        x.box(0, 1, 1, 0);
        check.due("plan() of two boxes in one slot", BayStowage.NONE, x.plan());
        x.roll(0);
        check.due("plan() with one of them rolled", 0, x.plan());
        check.dueMoves("of the other alone", x, "1@0 .>0, 1@1 0>.");
        check.badArgument("roll(0) again", () -> x.roll(0));
        x.roll(1);
        check.due("plan() with both rolled", 0, x.plan());
        check.due("moves() with both rolled", 0, x.moves());
    }

    private static BayStowage bayOf(int stacks, int tiers, int ports) {
        BayStowage x = new BayStowage();
        x.bay(stacks, tiers, ports, 200, 2000, 2000);
        return x;
    }
}
