public final class P08MoveTest {
    private static final int[] FAR_OFF = {Integer.MIN_VALUE, Integer.MAX_VALUE};

    public static void main(String[] args) {
        Check check = new Check("promise 8");
        answers(check);
        order(check);
        noPlan(check);
        firstAndLastMove(check);
        firstAndLastWhat(check);
        indexBeforeArgument(check);
        check.end();
    }

    private static void answers(Check check) {
        int[][] due = {
            {0, 0, -1, 0}, {1, 0, -1, 0}, {2, 1, -1, 0}, {2, 2, 0, -1},
            {1, 2, 0, -1}, {2, 2, -1, 0}, {2, 3, 0, -1}, {0, 3, 0, -1},
        };
        BayStowage x = Voyages.oneStack();
        for (int i = 0; i < due.length; i++) {
            for (int what = 0; what <= 3; what++) {
                check.due("move(" + i + ", " + what + ")", due[i][what], x.move(i, what));
            }
        }
        check.dueMoves("of two stacks", Voyages.twoStacks(), Voyages.TWO_STACKS_MOVES);
    }

    /** At a port all that is taken off, from stack 0 and the top on, goes before all that is put on. */
    private static void order(Check check) {
        BayStowage x = new BayStowage();
        x.bay(2, 2, 3, 20, 2000, 0);
        for (int box = 0; box < 4; box++) {
            x.box(0, 1, 10, 0);
        }
        x.plan();
        check.dueMoves("from stack 0 on", x,
                "0@0 .>0, 1@0 .>0, 2@0 .>1, 3@0 .>1, 1@1 0>., 0@1 0>., 3@1 1>., 2@1 1>.");
        x.bay(2, 1, 3, 20, 2000, 2000);
        x.box(0, 1, 10, 0);
        x.box(1, 2, 10, 0);
        x.box(0, 1, 10, 0);
        x.box(1, 2, 10, 0);
        x.plan();
        check.dueMoves("off before on", x,
                "0@0 .>0, 2@0 .>1, 0@1 0>., 2@1 1>., 1@1 .>0, 3@1 .>1, 1@2 0>., 3@2 1>.");
    }

    private static void noPlan(Check check) {
        check.refusedIndex("move(0, 0) of a new object", BayStowage::new, x -> x.move(0, 0));
        check.refusedIndex("move(0, 0) of boxes alone", Voyages::booked, x -> x.move(0, 0));
        check.refusedIndex("move(0, 0) with no plan to be found", Voyages::unplannable, x -> x.move(0, 0));
        check.refusedIndex("move(0, 0) of a plan of nothing", Voyages::plannedEmpty, x -> x.move(0, 0));
    }

    private static void firstAndLastMove(Check check) {
        BayStowage x = Voyages.oneStack();
        check.due("move(0, 1)", 0, x.move(0, 1));
        check.due("move(7, 1)", 3, x.move(7, 1));
        for (int i : new int[] {-1, 8, 9, FAR_OFF[0], FAR_OFF[1]}) {
            check.refusedIndex("move(" + i + ", 0)", Voyages::oneStackAtPort2, y -> y.move(i, 0));
        }
        // A plan before had more moves.
        x.roll(1);
        x.plan();
        check.due("move(3, 1) of four", 3, x.move(3, 1));
        check.badIndex("move(4, 1) of four", () -> x.move(4, 1));
    }

    private static void firstAndLastWhat(Check check) {
        BayStowage x = Voyages.oneStack();
        for (int i = 0; i < 8; i++) {
            int there = i;
            check.fits("move(" + i + ", 0)", () -> x.move(there, 0));
            check.fits("move(" + i + ", 3)", () -> x.move(there, 3));
            for (int what : new int[] {-1, 4, FAR_OFF[0], FAR_OFF[1]}) {
                check.refusedArgument("move(" + i + ", " + what + ")", Voyages::oneStackAtPort2,
                        y -> y.move(there, what));
            }
        }
    }

    private static void indexBeforeArgument(Check check) {
        for (int i : new int[] {-1, 8, FAR_OFF[0], FAR_OFF[1]}) {
            for (int what : new int[] {-1, 4, FAR_OFF[0], FAR_OFF[1]}) {
                check.refusedIndex("move(" + i + ", " + what + ")", Voyages::oneStackAtPort2,
                        x -> x.move(i, what));
            }
        }
        check.refusedIndex("move(0, 4) without a plan", Voyages::booked, x -> x.move(0, 4));
    }
}
