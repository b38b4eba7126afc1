public final class P03PlugTest {
    public static void main(String[] args) {
        Check check = new Check("promise 3");
        getsAndLoses(check);
        againTheSame(check);
        eachOfItsOwn(check);
        dropsThePlan(check);
        firstAndLastStack(check);
        noSuchStack(check);
        check.end();
    }

    private static void getsAndLoses(Check check) {
        BayStowage x = new BayStowage();
        x.bay(3, 1, 2, 100, 2000, 2000);
        x.box(0, 1, 10, 1);
        check.due("plan() without a plug", BayStowage.NONE, x.plan());
        for (int stack = 0; stack < 3; stack++) {
            x.plug(stack, true);
            check.due("plan() with a plug in " + stack, 0, x.plan());
            check.due("move(0, 3): to the stack with the plug", stack, x.move(0, 3));
            x.plug(stack, false);
            check.due("plan() with the plug lost", BayStowage.NONE, x.plan());
        }
    }

    private static void againTheSame(Check check) {
        BayStowage x = new BayStowage();
        x.box(0, 1, 10, 1);
        x.plug(0, true);
        x.plug(0, true);
        check.due("plan() with a plug told twice", 0, x.plan());
        x.plug(0, false);
        check.due("plan() with it lost once", BayStowage.NONE, x.plan());
        x.plug(0, false);
        check.due("plan() with it lost twice", BayStowage.NONE, x.plan());
        x.plug(0, true);
        check.due("plan() with it told again", 0, x.plan());
    }

    private static void eachOfItsOwn(Check check) {
        BayStowage x = new BayStowage();
        x.bay(3, 1, 2, 100, 2000, 2000);
        x.plug(0, true);
        x.plug(2, true);
        x.box(0, 1, 10, 1);
        x.plan();
        check.due("move(0, 3): none in stack 0 is first", 2, x.move(0, 3));
        x.box(0, 1, 10, 1);
        check.due("plan() of two cold boxes, two plugs", 0, x.plan());
        x.box(0, 1, 10, 1);
        check.due("plan() of three cold boxes, two plugs", BayStowage.NONE, x.plan());
        x.plug(1, true);
        check.due("plan() of three cold boxes, three plugs", 0, x.plan());
        x.bay(1, 2, 2, 100, 2000, 2000);
        x.plug(0, true);
        x.box(0, 1, 10, 0);
        check.due("plan(): a dry box may stand on a plug", 0, x.plan());
    }

    /** Also when nothing becomes other by it. */
    private static void dropsThePlan(Check check) {
        for (int stack = 0; stack < 2; stack++) {
            for (boolean on : new boolean[] {true, false}) {
                BayStowage x = Voyages.twoStacksAtPort0();
                x.plug(stack, on);
                check.noPlan("after plug(" + stack + ", " + on + ")", x);
                check.due("plan() again", 0, x.plan());
                check.dueMoves("again", x, Voyages.TWO_STACKS_MOVES);
            }
        }
    }

    private static void firstAndLastStack(Check check) {
        for (int stacks = 1; stacks <= 3; stacks++) {
            int beyond = stacks;
            BayStowage x = new BayStowage();
            x.bay(stacks, 1, 2, 1, 0, 0);
            check.fits("plug(0, true) of " + stacks, () -> x.plug(0, true));
            check.fits("plug of the last of " + stacks, () -> x.plug(beyond - 1, true));
            check.badArgument("plug(-1, true) of " + stacks, () -> x.plug(-1, true));
            check.badArgument("plug beyond " + stacks, () -> x.plug(beyond, true));
        }
    }

    private static void noSuchStack(Check check) {
        for (boolean on : new boolean[] {true, false}) {
            for (int stack : new int[] {-1, 1, 2, 3, Integer.MIN_VALUE, Integer.MAX_VALUE}) {
                check.refusedArgument("plug(" + stack + ", " + on + ") of one stack", Voyages::oneStackAtPort2,
                        x -> x.plug(stack, on));
            }
            for (int stack : new int[] {-1, 2, 3, Integer.MIN_VALUE, Integer.MAX_VALUE}) {
                check.refusedArgument("plug(" + stack + ", " + on + ") of two stacks", Voyages::plugged,
                        x -> x.plug(stack, on));
            }
            for (int stack : new int[] {-1, 3}) {
                check.refusedArgument("plug(" + stack + ", " + on + ") of three stacks", Voyages::booked,
                        x -> x.plug(stack, on));
            }
        }
    }
}
