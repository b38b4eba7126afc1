public final class P05RollTest {
    public static void main(String[] args) {
        Check check = new Check("promise 5");
        rolledIsNoBox(check);
        dropsThePlan(check);
        wrongInputs(check);
        check.end();
    }

    private static void rolledIsNoBox(Check check) {
        BayStowage x = Voyages.oneStack();
        x.roll(1);
        check.due("plan() without box 1", 0, x.plan());
        check.dueMoves("without box 1", x, "0@0 .>0, 2@1 .>0, 2@3 0>., 0@3 0>.");
        check.due("the next number", 3, x.box(0, 1, 1, 0));
        x.roll(0);
        x.roll(2);
        x.roll(3);
        check.due("plan() of rolled boxes alone", 0, x.plan());
        check.due("moves() of rolled boxes alone", 0, x.moves());
        check.due("the last number", 4, x.box(0, 1, 1, 0));
        check.badState("rolled ones stay booked", () -> x.box(0, 1, 1, 0));
    }

    private static void dropsThePlan(Check check) {
        BayStowage x = Voyages.twoStacks();
        x.replay(2);
        x.roll(2);
        check.noPlan("after roll", x);
        check.due("plan() again", 0, x.plan());
        check.due("moves() with one box less", 4, x.moves());
    }

    private static void wrongInputs(Check check) {
        for (int box : new int[] {-1, 3, 4, 5, Integer.MIN_VALUE, Integer.MAX_VALUE}) {
            BayStowage x = Voyages.oneStack();
            x.replay(5);
            check.badArgument("roll(" + box + ")", () -> x.roll(box));
            check.untouched("roll(" + box + ")", x, () -> x.roll(box));
        }
        BayStowage y = Voyages.oneStack();
        y.roll(1);
        y.plan();
        y.replay(2);
        check.badArgument("roll(1) again", () -> y.roll(1));
        check.untouched("roll(1) again", y, () -> y.roll(1));
    }
}
