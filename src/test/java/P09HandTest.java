public final class P09HandTest {
    private static final int[] FAR_OFF = {Integer.MIN_VALUE, Integer.MAX_VALUE};

    public static void main(String[] args) {
        Check check = new Check("promise 9");
        otherStack(check);
        leavesTheRest(check);
        noPlan(check);
        firstAndLastMove(check);
        firstAndLastStack(check);
        stackThatTheBayHasNot(check);
        takesABoxOff(check);
        indexBeforeArgument(check);
        check.end();
    }

    private static void otherStack(Check check) {
        BayStowage x = Voyages.twoStacks();
        for (int stack = 0; stack <= 2; stack++) {
            x.hand(1, stack);
            check.due("move(1, 3) after hand(1, " + stack + ")", stack, x.move(1, 3));
            check.due("move(1, 2) after hand(1, " + stack + ")", BayStowage.NONE, x.move(1, 2));
        }
        x.hand(1, 1);
        check.dueMoves("handed back", x, Voyages.TWO_STACKS_MOVES);
        check.due("verify() of the same stack again", 0, x.verify());
    }

    private static void leavesTheRest(Check check) {
        BayStowage x = Voyages.twoStacksAtPort0();
        x.hand(1, 0);
        check.dueMoves("but for move 1", x, "0@0 .>1, 1@0 .>0, 1@1 1>., 2@1 .>1, 2@2 1>., 0@2 1>.");
        check.due("slot(1, 1): the crane keeps what it has", 1, x.slot(1, 1));
        check.due("slot(0, 0): the crane keeps what it has", BayStowage.NONE, x.slot(0, 0));
        check.due("replay(2) by hand", 2, x.replay(2));
        check.due("slot(0, 0) by hand", 1, x.slot(0, 0));
        check.due("slot(1, 1) by hand", BayStowage.NONE, x.slot(1, 1));
    }

    private static void noPlan(Check check) {
        check.refusedIndex("hand(0, 0) of a new object", BayStowage::new, x -> x.hand(0, 0));
        check.refusedIndex("hand(0, 0) of boxes alone", Voyages::booked, x -> x.hand(0, 0));
        check.refusedIndex("hand(0, 0) with no plan to be found", Voyages::unplannable, x -> x.hand(0, 0));
        check.refusedIndex("hand(0, 0) of a plan of nothing", Voyages::plannedEmpty, x -> x.hand(0, 0));
    }

    /** Moves 0, 1, 2 and 5 put a box on, the last of them one that is shifted. */
    private static void firstAndLastMove(Check check) {
        for (int i : new int[] {0, 1, 2, 5}) {
            BayStowage x = Voyages.oneStack();
            check.fits("hand(" + i + ", 2)", () -> x.hand(i, 2));
            check.due("move(" + i + ", 3)", 2, x.move(i, 3));
            check.due("replay(8)", i, x.replay(8));
        }
        for (int i : new int[] {-1, 8, 9, 99, FAR_OFF[0], FAR_OFF[1]}) {
            check.refusedIndex("hand(" + i + ", 0)", Voyages::oneStackAtPort2, x -> x.hand(i, 0));
        }
    }

    private static void firstAndLastStack(Check check) {
        for (int i : new int[] {0, 1, 2, 5}) {
            for (int stack : new int[] {-1, 3, FAR_OFF[0], FAR_OFF[1]}) {
                check.refusedArgument("hand(" + i + ", " + stack + ")", Voyages::oneStackAtPort2,
                        x -> x.hand(i, stack));
            }
        }
    }

    /** "(also one that the bay hasn't may be told)" */
    private static void stackThatTheBayHasNot(Check check) {
        for (int stacks = 1; stacks <= 3; stacks++) {
            for (int stack = 0; stack <= 2; stack++) {
                int told = stack;
                BayStowage x = Voyages.alike(stacks, 1, 1);
                check.fits("hand(0, " + stack + ") of " + stacks, () -> x.hand(0, told));
                check.due("move(0, 3) of " + stacks, stack, x.move(0, 3));
            }
            for (int stack : new int[] {-1, 3}) {
                BayStowage x = Voyages.alike(stacks, 1, 1);
                check.badArgument("hand(0, " + stack + ") of " + stacks, () -> x.hand(0, stack));
            }
        }
    }

    private static void takesABoxOff(Check check) {
        for (int i : new int[] {3, 4, 6, 7}) {
            for (int stack : new int[] {-1, 0, 1, 2, 3}) {
                check.refusedArgument("hand(" + i + ", " + stack + ")", Voyages::oneStackAtPort2,
                        x -> x.hand(i, stack));
            }
        }
    }

    private static void indexBeforeArgument(Check check) {
        for (int i : new int[] {-1, 8, FAR_OFF[0], FAR_OFF[1]}) {
            for (int stack : new int[] {-1, 3, FAR_OFF[0], FAR_OFF[1]}) {
                check.refusedIndex("hand(" + i + ", " + stack + ")", Voyages::oneStackAtPort2,
                        x -> x.hand(i, stack));
            }
        }
        check.refusedIndex("hand(0, 3) without a plan", Voyages::booked, x -> x.hand(0, 3));
    }
}
