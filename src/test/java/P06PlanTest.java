public final class P06PlanTest {
    public static void main(String[] args) {
        Check check = new Check("promise 6");
        fewestShifts(check);
        firstOfSeveral(check);
        soundness(check);
        noPlan(check);
        againAndAgain(check);
        mostArrangements(check);
        check.end();
    }

    private static void fewestShifts(Check check) {
        BayStowage x = Voyages.oneStack();
        check.due("plan(): 1 lies under 2 and leaves ahead of it", 1, x.plan());
        x.bay(1, 2, 3, 200, 2000, 2000);
        x.box(0, 1, 1, 0);
        x.box(0, 2, 1, 0);
        check.due("plan(): the one that leaves first is upon the other", 0, x.plan());
        check.dueMoves("of no shift", x, "1@0 .>0, 0@0 .>0, 0@1 0>., 1@2 0>.");
        x.bay(1, 3, 3, 200, 6, 2000);
        x.box(0, 1, 3, 0);
        x.box(0, 2, 1, 0);
        check.due("plan(): the moment wants the heavy one at the bottom", 1, x.plan());
        check.dueMoves("of the one shift", x, "0@0 .>0, 1@0 .>0, 1@1 0>., 0@1 0>., 1@1 .>0, 1@2 0>.");
        x.bay(2, 1, 3, 200, 2000, 0);
        x.box(0, 2, 5, 0);
        x.box(0, 1, 5, 0);
        x.box(1, 2, 5, 0);
        check.due("plan(): the list keeps both stacks alike", 0, x.plan());
        x.bay(3, 1, 4, 200, 2000, 10);
        x.box(0, 3, 5, 0);
        x.box(1, 2, 5, 0);
        check.due("plan(): one at a side, or one there and one in the middle", 0, x.plan());
        x.bay(3, 1, 4, 200, 2000, 0);
        x.box(0, 3, 5, 0);
        x.box(1, 2, 5, 0);
        check.due("plan(): from the middle to a side and back", 2, x.plan());
        check.dueMoves("of the two shifts", x,
                "0@0 .>1, 0@1 1>., 0@1 .>0, 1@1 .>2, 0@2 0>., 1@2 2>., 0@2 .>1, 0@3 1>.");
    }

    private static void firstOfSeveral(Check check) {
        BayStowage x = new BayStowage();
        x.bay(3, 3, 2, 200, 2000, 2000);
        x.box(0, 1, 1, 0);
        x.box(0, 1, 1, 0);
        x.box(0, 1, 1, 0);
        x.plan();
        check.dueMoves("no box goes before a box, a lesser one before a greater",
                x, "0@0 .>2, 1@0 .>2, 2@0 .>2, 2@1 2>., 1@1 2>., 0@1 2>.");
        x.box(0, 1, 1, 0);
        x.plan();
        check.dueMoves("what stack 2 can't take goes to stack 1, from 0 on",
                x, "0@0 .>1, 1@0 .>2, 2@0 .>2, 3@0 .>2, 0@1 1>., 3@1 2>., 2@1 2>., 1@1 2>.");
        BayStowage y = new BayStowage();
        y.bay(2, 2, 3, 200, 2000, 2000);
        y.box(0, 2, 1, 0);
        y.box(1, 2, 1, 0);
        y.box(1, 2, 1, 0);
        check.due("plan(): the second arrangement counts among equals", 0, y.plan());
        check.dueMoves("with 1 in stack 0", y, "0@0 .>1, 1@1 .>0, 2@1 .>1, 1@2 0>., 2@2 1>., 0@2 1>.");
    }

    private static void soundness(Check check) {
        check.due("two dangers in one stack", BayStowage.NONE, planOf(1, 2, 2, 3));
        check.due("two dangers side by side", BayStowage.NONE, planOf(2, 1, 2, 3));
        check.due("the same, other way round", BayStowage.NONE, planOf(2, 2, 3, 2));
        check.due("two dangers with a stack between", 0, planOf(3, 1, 2, 3));
        check.due("three of two dangers", 0, planOf(3, 2, 2, 3, 2));
        check.due("three of two dangers, no tier for two", BayStowage.NONE, planOf(3, 1, 2, 3, 2));
        check.due("one danger twice in a stack", 0, planOf(1, 2, 2, 2));
        check.due("the other danger twice in a stack", 0, planOf(1, 2, 3, 3));
        check.due("danger upon dry", 0, planOf(1, 3, 0, 2, 2));
    }

    private static int planOf(int stacks, int tiers, int... kinds) {
        BayStowage x = new BayStowage();
        x.bay(stacks, tiers, 2, 200, 2000, 2000);
        for (int kind : kinds) {
            x.box(0, 1, 10, kind);
        }
        return x.plan();
    }

    private static void noPlan(Check check) {
        BayStowage x = Voyages.twoStacks();
        x.replay(2);
        x.box(1, 2, 1, 1);
        check.due("plan() with a cold box at port 1", BayStowage.NONE, x.plan());
        check.noPlan("when there is no plan", x);
        x.roll(3);
        check.due("plan() without the cold box", 0, x.plan());
        check.dueMoves("without the cold box", x, Voyages.TWO_STACKS_MOVES);
    }

    private static void againAndAgain(Check check) {
        BayStowage x = Voyages.oneStack();
        x.replay(5);
        x.hand(0, 2);
        check.due("plan() again", 1, x.plan());
        check.emptyCrane("after plan", x);
        check.dueMoves("again", x, Voyages.ONE_STACK_MOVES);
        check.due("verify() again", 0, x.verify());
    }

    /** Four, five and four boxes in nine slots: no departures have more arrangements among them. */
    private static void mostArrangements(Check check) {
        BayStowage x = new BayStowage();
        x.bay(3, 3, 4, 200, 2000, 2000);
        for (int box = 0; box < 4; box++) {
            x.box(0, 3, 40, 0);
        }
        x.box(1, 2, 40, 0);
        for (int call = 6; call < 400; call++) {
            check.due("plan() as call " + call, 0, x.plan());
        }
        check.dueMoves("of the most arrangements", x,
                "0@0 .>1, 1@0 .>2, 2@0 .>2, 3@0 .>2, 4@1 .>1, 4@2 1>., 0@3 1>., 3@3 2>., 2@3 2>., 1@3 2>.");
    }
}
