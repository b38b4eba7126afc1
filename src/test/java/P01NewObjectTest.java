public final class P01NewObjectTest {
    public static void main(String[] args) {
        Check check = new Check("promise 1");
        sizes(check);
        nothingBooked(check);
        noPlugs(check);
        check.end();
    }

    private static void sizes(Check check) {
        BayStowage x = new BayStowage();
        check.due("slot(1, 1)", BayStowage.NONE, x.slot(1, 1));
        check.badArgument("slot(2, 0)", () -> x.slot(2, 0));
        check.badArgument("slot(0, 2)", () -> x.slot(0, 2));
        check.due("report(2, 0)", 0, x.report(2, 0));
        check.badArgument("report(3, 0)", () -> x.report(3, 0));
        for (int box = 0; box < 4; box++) {
            check.due("box(0, 2, 40, 0)", box, x.box(0, 2, 40, 0));
        }
        check.due("plan() of four of the heaviest", 0, x.plan());
        check.due("box(0, 2, 1, 0)", 4, x.box(0, 2, 1, 0));
        check.due("plan() of more than there are slots", BayStowage.NONE, x.plan());
    }

    private static void nothingBooked(Check check) {
        BayStowage x = new BayStowage();
        check.noPlan("of a new object", x);
        check.due("moment(5) of a new object", 1, x.moment(5));
        check.badArgument("roll(0)", () -> x.roll(0));
        check.due("replay(0)", 0, x.replay(0));
        check.badArgument("replay(1)", () -> x.replay(1));
        check.due("plan() of nothing", 0, x.plan());
        check.due("moves() of nothing", 0, x.moves());
        check.due("verify() of nothing", 0, x.verify());
    }

    private static void noPlugs(Check check) {
        BayStowage x = new BayStowage();
        x.box(0, 1, 1, 1);
        check.due("plan() of a cold box", BayStowage.NONE, x.plan());
    }
}
