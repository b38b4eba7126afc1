/** Voyages that several tests start from. */
final class Voyages {
    /**
     * One stack, four ports, one shift: departures [0 1], [0 1 2] and [0 2].
     * Moves 1 to 8: on 0, on 1; on 2; off 2, off 1, on 2; off 2, off 0.
     */
    static BayStowage oneStack() {
        BayStowage x = new BayStowage();
        x.bay(1, 3, 4, 200, 2000, 2000);
        x.box(0, 3, 1, 0);
        x.box(0, 2, 2, 0);
        x.box(1, 3, 3, 0);
        x.plan();
        return x;
    }

    static final String ONE_STACK_MOVES =
            "0@0 .>0, 1@0 .>0, 2@1 .>0, 2@2 0>., 1@2 0>., 2@2 .>0, 2@3 0>., 0@3 0>.";

    /** Two stacks of two, three ports: 0 and 1 in stack 1 at first, then 2 upon 0. */
    static BayStowage twoStacks() {
        BayStowage x = new BayStowage();
        x.box(0, 2, 10, 0);
        x.box(0, 1, 20, 0);
        x.box(1, 2, 5, 0);
        x.plan();
        return x;
    }

    static final String TWO_STACKS_MOVES = "0@0 .>1, 1@0 .>1, 1@1 1>., 2@1 .>1, 2@2 1>., 0@2 1>.";

    private Voyages() {
    }
}
