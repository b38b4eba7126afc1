public final class P07MovesTest {
    public static void main(String[] args) {
        Check check = new Check("promise 7");
        noPlan(check);
        planOfNothing(check);
        twoForABox(check);
        twoForAShift(check);
        theMost(check);
        othersLeaveThem(check);
        check.end();
    }

    private static void noPlan(Check check) {
        check.due("moves() of a new object", 0, new BayStowage().moves());
        check.due("moves() of boxes alone", 0, Voyages.booked().moves());
        check.due("moves() when no plan can be found", 0, Voyages.unplannable().moves());
        BayStowage x = Voyages.twoStacks();
        x.bay(2, 2, 3, 100, 1000, 1000);
        check.due("moves() after bay", 0, x.moves());
        x = Voyages.twoStacks();
        x.plug(0, false);
        check.due("moves() after plug", 0, x.moves());
        x = Voyages.twoStacks();
        x.box(0, 1, 1, 0);
        check.due("moves() after box", 0, x.moves());
        x = Voyages.twoStacks();
        x.roll(0);
        check.due("moves() after roll", 0, x.moves());
        x = Voyages.twoStacks();
        x.box(0, 1, 1, 1);
        x.plan();
        check.due("moves() after a plan and none", 0, x.moves());
    }

    private static void planOfNothing(Check check) {
        check.due("moves() of a plan of nothing", 0, Voyages.plannedEmpty().moves());
        BayStowage x = Voyages.twoStacks();
        for (int box = 0; box < 3; box++) {
            x.roll(box);
        }
        x.plan();
        check.due("moves() when all are rolled", 0, x.moves());
    }

    private static void twoForABox(Check check) {
        for (int boxes = 1; boxes <= 5; boxes++) {
            check.due("moves() of " + boxes + " boxes", 2 * boxes, Voyages.alike(3, 2, boxes).moves());
        }
    }

    private static void twoForAShift(Check check) {
        check.due("moves() of three boxes and a shift", 8, Voyages.oneStack().moves());
        check.due("moves() of three boxes without one", 6, Voyages.twoStacks().moves());
    }

    private static void theMost(Check check) {
        BayStowage x = Voyages.mostShifts();
        check.due("moves() of the most shifts", 2 * 5 + 2 * 8, x.moves());
        check.due("move(25, 1): the last", 3, x.move(25, 1));
        check.badIndex("move(26, 1)", () -> x.move(26, 1));
        check.due("replay(26)", 26, x.replay(26));
        check.badArgument("replay(27)", () -> x.replay(27));
        check.due("verify()", 0, x.verify());
    }

    private static void othersLeaveThem(Check check) {
        BayStowage x = Voyages.twoStacks();
        x.hand(0, 2);
        check.due("moves() after hand", 6, x.moves());
        x.replay(0);
        check.due("moves() after replay", 6, x.moves());
        x.verify();
        check.due("moves() after verify", 6, x.moves());
    }
}
