public final class P01NewObjectTest {
    /** "An object is used for at most 512 calls after it has been made" */
    private static final int MOST_CALLS = 512;

    public static void main(String[] args) {
        Check check = new Check("promise 1");
        twoStacks(check);
        twoTiers(check);
        threePorts(check);
        limits(check);
        noPlugs(check);
        noBoxes(check);
        noPlan(check);
        sameAsThatBay(check);
        lastCall(check);
        check.end();
    }

    private static void twoStacks(Check check) {
        BayStowage x = new BayStowage();
        check.due("slot(0, 0)", BayStowage.NONE, x.slot(0, 0));
        check.due("slot(1, 0)", BayStowage.NONE, x.slot(1, 0));
        check.badArgument("slot(2, 0)", () -> x.slot(2, 0));
        check.badArgument("slot(-1, 0)", () -> x.slot(-1, 0));
        check.fits("plug(1, true)", () -> x.plug(1, true));
        check.badArgument("plug(2, true)", () -> x.plug(2, true));
    }

    private static void twoTiers(Check check) {
        BayStowage x = new BayStowage();
        check.due("slot(0, 1)", BayStowage.NONE, x.slot(0, 1));
        check.badArgument("slot(0, 2)", () -> x.slot(0, 2));
        check.badArgument("slot(0, -1)", () -> x.slot(0, -1));
    }

    private static void threePorts(Check check) {
        BayStowage x = new BayStowage();
        check.due("report(2, 0)", 0, x.report(2, 0));
        check.badArgument("report(3, 0)", () -> x.report(3, 0));
        check.due("box(0, 2, 1, 0)", 0, x.box(0, 2, 1, 0));
        check.badArgument("box(0, 3, 1, 0)", () -> x.box(0, 3, 1, 0));
    }

    /** Two of the heaviest in each stack are within 100 tonnes and the moments; a fifth has no slot. */
    private static void limits(Check check) {
        BayStowage x = new BayStowage();
        for (int box = 0; box < 4; box++) {
            check.due("box(0, 2, 40, 0)", box, x.box(0, 2, 40, 0));
        }
        check.due("plan() of a full bay", 0, x.plan());
        x.replay(4);
        check.due("moment(0) of a full bay", 2 * (40 + 80), x.moment(0));
        check.due("moment(5) of a full bay", 1, x.moment(5));
        check.due("box(0, 2, 1, 0)", 4, x.box(0, 2, 1, 0));
        check.due("plan() of more than there are slots", BayStowage.NONE, x.plan());
        BayStowage y = new BayStowage();
        y.box(0, 2, 40, 0);
        y.box(0, 2, 40, 0);
        check.due("plan() of two of the heaviest", 0, y.plan());
        y.replay(2);
        check.due("moment(3): both in stack 1", 80, y.moment(3));
        check.due("moment(1): both in stack 1", 80, y.moment(1));
    }

    private static void noPlugs(Check check) {
        BayStowage x = new BayStowage();
        x.box(0, 1, 1, 1);
        check.due("plan() of a cold box", BayStowage.NONE, x.plan());
    }

    private static void noBoxes(Check check) {
        BayStowage x = new BayStowage();
        check.badArgument("roll(0)", () -> x.roll(0));
        check.due("plan() of nothing", 0, x.plan());
        check.due("moves() of nothing", 0, x.moves());
        check.due("verify() of nothing", 0, x.verify());
        check.due("box(0, 1, 1, 0): the first number", 0, x.box(0, 1, 1, 0));
    }

    private static void noPlan(Check check) {
        BayStowage x = new BayStowage();
        check.noPlan("of a new object", x);
        check.due("replay(0)", 0, x.replay(0));
    }

    private static void sameAsThatBay(Check check) {
        BayStowage x = Voyages.oneStackAtPort2();
        x.bay(2, 2, 3, 100, 1000, 1000);
        check.isTrue("a new object is as after bay(2, 2, 3, 100, 1000, 1000)",
                Probe.all(x).equals(Probe.all(new BayStowage())));
    }

    private static void lastCall(Check check) {
        BayStowage x = Voyages.twoStacks();
        int calls = 4;
        while (calls < MOST_CALLS - 2) {
            x.plan();
            calls++;
        }
        check.due("replay(4) as call 511", 4, x.replay(4));
        check.due("slot(1, 1) as call 512", 2, x.slot(1, 1));
    }
}
