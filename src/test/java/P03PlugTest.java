public final class P03PlugTest {
    public static void main(String[] args) {
        Check check = new Check("promise 3");
        coldBoxes(check);
        dropsThePlan(check);
        wrongInputs(check);
        check.end();
    }

    private static void coldBoxes(Check check) {
        BayStowage x = new BayStowage();
        x.bay(3, 1, 2, 100, 2000, 2000);
        x.box(0, 1, 10, 1);
        check.due("plan() without a plug", BayStowage.NONE, x.plan());
        for (int stack = 0; stack < 3; stack++) {
            x.plug(stack, true);
            check.due("plan() with a plug in " + stack, 0, x.plan());
            check.due("move(0, 3): to the stack with the plug", stack, x.move(0, 3));
            x.plug(stack, false);
            check.due("plan() with the plug lost", BayStowage.NONE, x.plan());
        }
        x.plug(0, true);
        x.plug(2, true);
        x.plan();
        check.due("move(0, 3): none in stack 0 is first", 2, x.move(0, 3));
        x.box(0, 1, 10, 1);
        check.due("plan() of two cold boxes, two plugs", 0, x.plan());
        x.box(0, 1, 10, 1);
        check.due("plan() of three cold boxes, two plugs", BayStowage.NONE, x.plan());
        x.bay(1, 2, 2, 100, 2000, 2000);
        x.plug(0, true);
        x.box(0, 1, 10, 0);
        check.due("plan(): a dry box may stand on a plug", 0, x.plan());
    }

    private static void dropsThePlan(Check check) {
        for (boolean on : new boolean[] {true, false}) {
            BayStowage x = Voyages.twoStacks();
            x.replay(2);
            x.plug(1, on);
            check.noPlan("after plug(1, " + on + ")", x);
            check.due("plan() again", 0, x.plan());
            check.dueMoves("again", x, Voyages.TWO_STACKS_MOVES);
        }
    }

    private static void wrongInputs(Check check) {
        for (int stack : new int[] {-1, 1, 2, 3, Integer.MIN_VALUE, Integer.MAX_VALUE}) {
            for (boolean on : new boolean[] {true, false}) {
                BayStowage x = Voyages.oneStack();
                x.replay(5);
                check.badArgument("plug(" + stack + ", " + on + ")", () -> x.plug(stack, on));
                check.untouched("plug(" + stack + ", " + on + ")", x, () -> x.plug(stack, on));
            }
        }
        BayStowage y = new BayStowage();
        y.bay(3, 1, 2, 1, 0, 0);
        check.fits("plug(2, true)", () -> y.plug(2, true));
        check.badArgument("plug(3, true)", () -> y.plug(3, true));
    }
}
