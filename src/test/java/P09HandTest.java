public final class P09HandTest {
    public static void main(String[] args) {
        Check check = new Check("promise 9");
        otherStack(check);
        leavesTheRest(check);
        wrongInputs(check);
        check.end();
    }

    private static void otherStack(Check check) {
        BayStowage x = Voyages.twoStacks();
        for (int stack = 0; stack <= 2; stack++) {
            x.hand(1, stack);
            check.due("move(1, 3) after hand(1, " + stack + ")", stack, x.move(1, 3));
            check.due("move(1, 2) after hand(1, " + stack + ")", BayStowage.NONE, x.move(1, 2));
        }
        x.hand(1, 1);
        check.dueMoves("handed back", x, Voyages.TWO_STACKS_MOVES);
        check.due("verify() of the same stack again", 0, x.verify());
        BayStowage y = Voyages.oneStack();
        check.fits("hand(5, 2): a shifted box, a stack that there isn't", () -> y.hand(5, 2));
        check.due("move(5, 3)", 2, y.move(5, 3));
    }

    private static void leavesTheRest(Check check) {
        BayStowage x = Voyages.twoStacks();
        x.replay(2);
        x.hand(1, 0);
        check.dueMoves("but for move 1", x, "0@0 .>1, 1@0 .>0, 1@1 1>., 2@1 .>1, 2@2 1>., 0@2 1>.");
        check.due("slot(1, 1): the crane keeps what it has", 1, x.slot(1, 1));
        check.due("slot(0, 0): the crane keeps what it has", BayStowage.NONE, x.slot(0, 0));
        check.due("replay(2) by hand", 2, x.replay(2));
        check.due("slot(0, 0) by hand", 1, x.slot(0, 0));
        check.due("slot(1, 1) by hand", BayStowage.NONE, x.slot(1, 1));
    }

    private static void wrongInputs(Check check) {
        BayStowage x = Voyages.oneStack();
        x.replay(5);
        for (int i : new int[] {-1, 8, 99, Integer.MIN_VALUE, Integer.MAX_VALUE}) {
            check.badIndex("hand(" + i + ", 0)", () -> x.hand(i, 0));
            check.badIndex("hand(" + i + ", 3): the index goes first", () -> x.hand(i, 3));
        }
        for (int stack : new int[] {-1, 3, Integer.MIN_VALUE, Integer.MAX_VALUE}) {
            check.badArgument("hand(0, " + stack + ")", () -> x.hand(0, stack));
            check.untouched("hand(0, " + stack + ")", x, () -> x.hand(0, stack));
        }
        for (int i : new int[] {3, 4, 6, 7}) {
            check.badArgument("hand(" + i + ", 0): takes a box off", () -> x.hand(i, 0));
            check.untouched("hand(" + i + ", 0)", x, () -> x.hand(i, 0));
        }
        check.badIndex("hand(0, 0) of a new object", () -> new BayStowage().hand(0, 0));
    }
}
