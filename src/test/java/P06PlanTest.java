public final class P06PlanTest {
    public static void main(String[] args) {
        Check check = new Check("promise 6");
        fewestShifts(check);
        firstOfSeveral(check);
        soundness(check);
        noBoxesAndFive(check);
        fullBay(check);
        noPlan(check);
        noPlanAtOneDeparture(check);
        emptyCrane(check);
        againAndAgain(check);
        mostArrangements(check);
        mostArrangementsOfEachJourney(check);
        fiveAtSeveralDepartures(check);
        check.end();
    }

    private static void fewestShifts(Check check) {
        BayStowage x = Voyages.oneStack();
        check.due("plan(): 1 lies under 2 and leaves ahead of it", 1, x.plan());
        x.bay(1, 2, 3, 200, 2000, 2000);
        x.box(0, 1, 1, 0);
        x.box(0, 2, 1, 0);
        check.due("plan(): the one that leaves first is upon the other", 0, x.plan());
        check.dueMoves("of no shift", x, "1@0 .>0, 0@0 .>0, 0@1 0>., 1@2 0>.");
        x.bay(1, 3, 3, 200, 6, 2000);
        x.box(0, 1, 3, 0);
        x.box(0, 2, 1, 0);
        check.due("plan(): the moment wants the heavy one at the bottom", 1, x.plan());
        check.dueMoves("of the one shift", x, "0@0 .>0, 1@0 .>0, 1@1 0>., 0@1 0>., 1@1 .>0, 1@2 0>.");
        x.bay(2, 1, 3, 200, 2000, 0);
        x.box(0, 2, 5, 0);
        x.box(0, 1, 5, 0);
        x.box(1, 2, 5, 0);
        check.due("plan(): the list keeps both stacks alike", 0, x.plan());
        x.bay(3, 1, 4, 200, 2000, 10);
        x.box(0, 3, 5, 0);
        x.box(1, 2, 5, 0);
        check.due("plan(): one at a side, or one there and one in the middle", 0, x.plan());
        x.bay(3, 1, 4, 200, 2000, 0);
        x.box(0, 3, 5, 0);
        x.box(1, 2, 5, 0);
        check.due("plan(): from the middle to a side and back", 2, x.plan());
        check.dueMoves("of the two shifts", x,
                "0@0 .>1, 0@1 1>., 0@1 .>0, 1@1 .>2, 0@2 0>., 1@2 2>., 0@2 .>1, 0@3 1>.");
    }

    private static void firstOfSeveral(Check check) {
        BayStowage x = new BayStowage();
        x.bay(3, 3, 2, 200, 2000, 2000);
        x.box(0, 1, 1, 0);
        x.box(0, 1, 1, 0);
        x.box(0, 1, 1, 0);
        x.plan();
        check.dueMoves("no box goes before a box, a lesser one before a greater",
                x, "0@0 .>2, 1@0 .>2, 2@0 .>2, 2@1 2>., 1@1 2>., 0@1 2>.");
        x.box(0, 1, 1, 0);
        x.plan();
        check.dueMoves("what stack 2 can't take goes to stack 1, from 0 on",
                x, "0@0 .>1, 1@0 .>2, 2@0 .>2, 3@0 .>2, 0@1 1>., 3@1 2>., 2@1 2>., 1@1 2>.");
        BayStowage y = new BayStowage();
        y.bay(2, 2, 3, 200, 2000, 2000);
        y.box(0, 2, 1, 0);
        y.box(1, 2, 1, 0);
        y.box(1, 2, 1, 0);
        check.due("plan(): the second arrangement counts among equals", 0, y.plan());
        check.dueMoves("with 1 in stack 0", y, "0@0 .>1, 1@1 .>0, 2@1 .>1, 1@2 0>., 2@2 1>., 0@2 1>.");
    }

    private static void soundness(Check check) {
        check.due("two dangers in one stack", BayStowage.NONE, planOf(1, 2, 2, 3));
        check.due("two dangers side by side", BayStowage.NONE, planOf(2, 1, 2, 3));
        check.due("the same, other way round", BayStowage.NONE, planOf(2, 2, 3, 2));
        check.due("two dangers with a stack between", 0, planOf(3, 1, 2, 3));
        check.due("three of two dangers", 0, planOf(3, 2, 2, 3, 2));
        check.due("three of two dangers, no tier for two", BayStowage.NONE, planOf(3, 1, 2, 3, 2));
        check.due("one danger twice in a stack", 0, planOf(1, 2, 2, 2));
        check.due("the other danger twice in a stack", 0, planOf(1, 2, 3, 3));
        check.due("danger upon dry", 0, planOf(1, 3, 0, 2, 2));
    }

    private static int planOf(int stacks, int tiers, int... kinds) {
        BayStowage x = new BayStowage();
        x.bay(stacks, tiers, 2, 200, 2000, 2000);
        for (int kind : kinds) {
            x.box(0, 1, 10, kind);
        }
        return x.plan();
    }

    private static void noBoxesAndFive(Check check) {
        for (int boxes = 0; boxes <= 5; boxes++) {
            BayStowage x = new BayStowage();
            x.bay(3, 3, 4, 200, 2000, 2000);
            for (int box = 0; box < boxes; box++) {
                x.box(0, 3, 40, 0);
            }
            check.due("plan() of " + boxes + " boxes", 0, x.plan());
            check.due("moves() of " + boxes + " boxes", 2 * boxes, x.moves());
            check.due("verify() of " + boxes + " boxes", 0, x.verify());
        }
    }

    /** Bays of at most five slots, full at each departure and with one box too many at one of them. */
    private static void fullBay(Check check) {
        int[][] sizes = {{1, 1}, {1, 2}, {1, 3}, {2, 1}, {2, 2}, {3, 1}};
        for (int[] size : sizes) {
            String bay = size[0] + " stacks of " + size[1];
            BayStowage x = new BayStowage();
            x.bay(size[0], size[1], 3, 200, 2000, 2000);
            int slots = size[0] * size[1];
            for (int box = 0; box < slots; box++) {
                x.box(0, 2, 1, 0);
            }
            check.due("plan() that fills " + bay, 0, x.plan());
            x.replay(slots);
            for (int box = 0; box < slots; box++) {
                check.due("slot: " + bay + " are full", box, x.slot(box / size[1], box % size[1]));
            }
            x.box(1, 2, 1, 0);
            check.due("plan() of one too many for " + bay, BayStowage.NONE, x.plan());
            check.noPlan("of one too many for " + bay, x);
        }
    }

    /** "NONE if there is no plan (then there are no moves)": also those of an earlier plan are gone */
    private static void noPlan(Check check) {
        BayStowage x = Voyages.twoStacksAtPort0();
        x.box(1, 2, 1, 1);
        check.due("plan() with a cold box at port 1", BayStowage.NONE, x.plan());
        check.noPlan("when there is no plan", x);
        check.due("plan() with a cold box, again", BayStowage.NONE, x.plan());
        check.noPlan("when there is no plan, again", x);
        x.roll(3);
        check.due("plan() without the cold box", 0, x.plan());
        check.dueMoves("without the cold box", x, Voyages.TWO_STACKS_MOVES);
    }

    /** The first, one in the middle or the last: one departure that can't be sound is enough. */
    private static void noPlanAtOneDeparture(Check check) {
        for (int port = 0; port < 3; port++) {
            BayStowage x = new BayStowage();
            x.bay(3, 3, 4, 200, 2000, 2000);
            x.box(0, 3, 10, 0);
            check.due("plan() of a dry box", 0, x.plan());
            x.box(port, port + 1, 10, 1);
            check.due("plan() with a cold box at departure " + port, BayStowage.NONE, x.plan());
            check.noPlan("with a cold box at departure " + port, x);
        }
    }

    /** "The crane has an empty bay." */
    private static void emptyCrane(Check check) {
        BayStowage x = Voyages.oneStackAtPort2();
        check.due("moment(2) before plan", 1, x.moment(2));
        x.plan();
        check.emptyCrane("after plan", x);
        BayStowage y = Voyages.twoStacksAtPort0();
        check.due("moment(3) before plan", 30, y.moment(3));
        y.plan();
        check.emptyCrane("after plan", y);
        check.due("slot(1, 0) after plan", BayStowage.NONE, y.slot(1, 0));
        check.due("slot(1, 1) after plan", BayStowage.NONE, y.slot(1, 1));
    }

    private static void againAndAgain(Check check) {
        BayStowage x = Voyages.oneStackAtPort2();
        x.hand(0, 2);
        check.due("plan() again", 1, x.plan());
        check.dueMoves("again: what was told by hand is gone", x, Voyages.ONE_STACK_MOVES);
        check.due("verify() again", 0, x.verify());
    }

    /** Four, five and four boxes in nine slots: no departures have more arrangements among them. */
    private static void mostArrangements(Check check) {
        BayStowage x = new BayStowage();
        x.bay(3, 3, 4, 200, 2000, 2000);
        for (int box = 0; box < 4; box++) {
            x.box(0, 3, 40, 0);
        }
        x.box(1, 2, 40, 0);
        for (int call = 6; call < 400; call++) {
            check.due("plan() as call " + call, 0, x.plan());
        }
        check.dueMoves("of the most arrangements", x,
                "0@0 .>1, 1@0 .>2, 2@0 .>2, 3@0 .>2, 4@1 .>1, 4@2 1>., 0@3 1>., 3@3 2>., 2@3 2>., 1@3 2>.");
    }

    /** The same for each choice of the box that leaves at port 2 and the one that comes at port 1. */
    private static void mostArrangementsOfEachJourney(Check check) {
        for (int leaves = 0; leaves < 5; leaves++) {
            for (int comes = 0; comes < 5; comes++) {
                BayStowage x = fullest(leaves, comes);
                check.due("plan() with " + leaves + " leaving and " + comes + " coming", 0, x.plan());
                check.due("verify() with " + leaves + " leaving and " + comes + " coming", 0, x.verify());
                check.due("moves() with " + leaves + " leaving and " + comes + " coming", 10, x.moves());
            }
        }
        BayStowage y = fullest(0, 4);
        y.plan();
        // Upon 0 in stack 1 box 4 would be ahead at port 1, but it were shifted at port 2.
        check.dueMoves("that want one far down the list at port 2", y,
                "0@0 .>1, 1@0 .>2, 2@0 .>2, 3@0 .>2, 4@1 .>0, 0@2 1>., 4@3 0>., 3@3 2>., 2@3 2>., 1@3 2>.");
    }

    /** Four boxes that are always aboard and one of each journey: all five may be at up to three departures. */
    private static void fiveAtSeveralDepartures(Check check) {
        for (int one = 0; one < 5; one++) {
            for (int from = 0; from < 3; from++) {
                for (int to = from + 1; to <= 3; to++) {
                    BayStowage x = new BayStowage();
                    x.bay(3, 3, 4, 200, 2000, 2000);
                    for (int box = 0; box < 5; box++) {
                        x.box(box == one ? from : 0, box == one ? to : 3, 1, 0);
                    }
                    String voyage = " with box " + one + " from " + from + " to " + to;
                    check.due("plan()" + voyage, 0, x.plan());
                    check.due("verify()" + voyage, 0, x.verify());
                    check.due("moves()" + voyage, 10, x.moves());
                }
            }
        }
    }

    private static BayStowage fullest(int leaves, int comes) {
        BayStowage x = new BayStowage();
        x.bay(3, 3, 4, 200, 2000, 2000);
        for (int box = 0; box < 5; box++) {
            x.box(box == comes ? 1 : 0, box == leaves ? 2 : 3, 1, 0);
        }
        return x;
    }
}
