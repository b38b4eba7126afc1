import java.util.LinkedHashMap;
import java.util.Map;
import java.util.function.Supplier;

/** Voyages that several tests start from. */
final class Voyages {
    static final String ONE_STACK_MOVES =
            "0@0 .>0, 1@0 .>0, 2@1 .>0, 2@2 0>., 1@2 0>., 2@2 .>0, 2@3 0>., 0@3 0>.";

    static final String TWO_STACKS_MOVES = "0@0 .>1, 1@0 .>1, 1@1 1>., 2@1 .>1, 2@2 1>., 0@2 1>.";

    private Voyages() {
    }

    /**
     * One stack, four ports, one shift: departures [0 1], [0 1 2] and [0 2].
     * Moves 1 to 8: on 0, on 1; on 2; off 2, off 1, on 2; off 2, off 0.
     */
    static BayStowage oneStack() {
        BayStowage x = new BayStowage();
        x.bay(1, 3, 4, 200, 2000, 2000);
        x.box(0, 3, 1, 0);
        x.box(0, 2, 2, 0);
        x.box(1, 3, 3, 0);
        x.plan();
        return x;
    }

    static BayStowage oneStackAtPort2() {
        BayStowage x = oneStack();
        x.replay(5);
        return x;
    }

    /** Two stacks of two, three ports: 0 and 1 in stack 1 at first, then 2 upon 0. */
    static BayStowage twoStacks() {
        BayStowage x = new BayStowage();
        x.box(0, 2, 10, 0);
        x.box(0, 1, 20, 0);
        x.box(1, 2, 5, 0);
        x.plan();
        return x;
    }

    static BayStowage twoStacksAtPort0() {
        BayStowage x = twoStacks();
        x.replay(2);
        return x;
    }

    /** Box 1 is in stack 0 by hand; the crane stops ahead of the move that takes it from stack 1. */
    static BayStowage twoStacksByHand() {
        BayStowage x = twoStacks();
        x.hand(1, 0);
        x.replay(6);
        return x;
    }

    /** Boxes, a rolled one among them, and no plan yet. */
    static BayStowage booked() {
        BayStowage x = new BayStowage();
        x.bay(3, 1, 2, 100, 1000, 1000);
        x.box(0, 1, 10, 0);
        x.box(0, 1, 20, 2);
        x.roll(0);
        return x;
    }

    /** A cold box and no plug: there is no plan to be found. */
    static BayStowage unplannable() {
        BayStowage x = new BayStowage();
        x.box(0, 1, 10, 1);
        x.plan();
        return x;
    }

    /** A plan of nothing. */
    static BayStowage plannedEmpty() {
        BayStowage x = new BayStowage();
        x.plan();
        return x;
    }

    /** Five were booked and two of them rolled; the crane is at port 2. */
    static BayStowage fullBook() {
        BayStowage x = oneStack();
        x.box(0, 1, 1, 0);
        x.box(0, 1, 1, 0);
        x.roll(3);
        x.roll(4);
        x.plan();
        x.replay(5);
        return x;
    }

    /** A cold box in the one stack of two that has a plug. */
    static BayStowage plugged() {
        BayStowage x = new BayStowage();
        x.plug(0, true);
        x.box(0, 2, 10, 1);
        x.plan();
        x.replay(1);
        return x;
    }

    /**
     * Two boxes of 20 tonnes, side by side as one of the limits wants it: without it both were in stack 1,
     * and were it any lower there were no plan.
     */
    static BayStowage sideBySide(int tonnes, int vertical, int list) {
        BayStowage x = new BayStowage();
        x.bay(2, 2, 3, tonnes, vertical, list);
        x.box(0, 2, 20, 0);
        x.box(0, 2, 20, 0);
        x.plan();
        x.replay(1);
        return x;
    }

    /** Boxes of a tonne, all of them from port 0 to port 1, in a bay that limits nothing; planned. */
    static BayStowage alike(int stacks, int tiers, int boxes) {
        BayStowage x = new BayStowage();
        x.bay(stacks, tiers, 2, 200, 2000, 2000);
        for (int box = 0; box < boxes; box++) {
            x.box(0, 1, 1, 0);
        }
        x.plan();
        return x;
    }

    /**
     * Five boxes, four of which stay aboard at ports 1 and 2 and are all shifted there, as their weights
     * balance in few ways: 8 shifts, and more than four at two ports there can't be.
     */
    static BayStowage mostShifts() {
        BayStowage x = new BayStowage();
        x.bay(3, 2, 4, 64, 2000, 0);
        for (int tonnes : new int[] {18, 18, 16, 13}) {
            x.box(0, 3, tonnes, 0);
        }
        x.box(1, 2, 3, 0);
        x.plan();
        return x;
    }

    /** Objects in all the states that the document tells apart. */
    static Map<String, Supplier<BayStowage>> scenes() {
        Map<String, Supplier<BayStowage>> scenes = new LinkedHashMap<>();
        scenes.put("a new object", BayStowage::new);
        scenes.put("boxes without a plan", Voyages::booked);
        scenes.put("no plan to be found", Voyages::unplannable);
        scenes.put("a plan of nothing", Voyages::plannedEmpty);
        scenes.put("one stack at port 2", Voyages::oneStackAtPort2);
        scenes.put("two stacks at port 0", Voyages::twoStacksAtPort0);
        scenes.put("two stacks by hand", Voyages::twoStacksByHand);
        scenes.put("five booked", Voyages::fullBook);
        scenes.put("the most shifts", Voyages::mostShifts);
        scenes.put("a plug", Voyages::plugged);
        scenes.put("tight tonnes", () -> sideBySide(20, 2000, 2000));
        scenes.put("tight vertical moment", () -> sideBySide(200, 40, 2000));
        scenes.put("tight list", () -> sideBySide(200, 2000, 0));
        return scenes;
    }
}
