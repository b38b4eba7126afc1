public final class P05RollTest {
    public static void main(String[] args) {
        Check check = new Check("promise 5");
        rolledIsNoBox(check);
        dropsThePlan(check);
        firstAndLastBox(check);
        noSuchBox(check);
        notAnyMore(check);
        check.end();
    }

    private static void rolledIsNoBox(Check check) {
        BayStowage x = Voyages.oneStack();
        x.roll(1);
        check.due("plan() without box 1", 0, x.plan());
        check.dueMoves("without box 1", x, "0@0 .>0, 2@1 .>0, 2@3 0>., 0@3 0>.");
        check.due("the next number", 3, x.box(0, 1, 1, 0));
        x.roll(0);
        x.roll(2);
        x.roll(3);
        check.due("plan() of rolled boxes alone", 0, x.plan());
        check.due("moves() of rolled boxes alone", 0, x.moves());
        check.due("the last number", 4, x.box(0, 1, 1, 0));
        check.badState("rolled ones stay booked", () -> x.box(0, 1, 1, 0));
    }

    private static void dropsThePlan(Check check) {
        BayStowage x = Voyages.twoStacksAtPort0();
        x.roll(2);
        check.noPlan("after roll", x);
        check.due("plan() again", 0, x.plan());
        check.due("moves() with one box less", 4, x.moves());
    }

    private static void firstAndLastBox(Check check) {
        for (int booked = 1; booked <= 5; booked++) {
            for (int box = 0; box < booked; box++) {
                int number = box;
                BayStowage x = bookedOf(booked);
                check.fits("roll(" + box + ") of " + booked, () -> x.roll(number));
                check.due("plan() of the others", 0, x.plan());
                check.due("moves() of the others", 2 * (booked - 1), x.moves());
            }
        }
    }

    private static void noSuchBox(Check check) {
        check.refusedArgument("roll(0) of none", BayStowage::new, x -> x.roll(0));
        for (int booked = 1; booked <= 5; booked++) {
            int most = booked;
            for (int box : new int[] {-1, booked, 5, Integer.MIN_VALUE, Integer.MAX_VALUE}) {
                check.refusedArgument("roll(" + box + ") of " + booked, () -> bookedOf(most), x -> x.roll(box));
            }
        }
        for (int box : new int[] {-1, 3, 4, 5, Integer.MIN_VALUE, Integer.MAX_VALUE}) {
            check.refusedArgument("roll(" + box + ") of a plan", Voyages::oneStackAtPort2, x -> x.roll(box));
        }
    }

    /** "(any more)": it was rolled, or belonged to another bay. */
    private static void notAnyMore(Check check) {
        check.refusedArgument("roll(0) again", Voyages::booked, x -> x.roll(0));
        check.refusedArgument("roll(3) again", Voyages::fullBook, x -> x.roll(3));
        check.refusedArgument("roll(4) again", Voyages::fullBook, x -> x.roll(4));
        BayStowage x = Voyages.twoStacks();
        x.bay(2, 2, 3, 100, 1000, 1000);
        check.badArgument("roll(0) after bay", () -> x.roll(0));
    }

    private static BayStowage bookedOf(int boxes) {
        BayStowage x = Voyages.alike(3, 2, boxes);
        x.replay(1);
        return x;
    }
}
