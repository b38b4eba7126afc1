/**
 * Terms: what is sound, at each limit and one beyond. Plans tell of what a ship may depart with; moment(5)
 * tells of what stands where it was put by hand.
 */
public final class T2SoundTest {
    public static void main(String[] args) {
        Check check = new Check("terms, sound");
        stackWeight(check);
        verticalMoment(check);
        verticalOfEachTier(check);
        listOnBothSides(check);
        listOfEachStack(check);
        emptyBay(check);
        leastLimits(check);
        mostLimits(check);
        coldBoxes(check);
        dangersInOneStack(check);
        dangersBesideEachOther(check);
        check.end();
    }

    /** "no stack weighs more than the bay's most" */
    private static void stackWeight(Check check) {
        check.due("plan() of 60 tonnes in a stack of 60", 0, plan(bayOf(1, 3, 60, 2000, 2000), 10, 20, 30));
        check.due("plan() of 60 tonnes in a stack of 59", BayStowage.NONE,
                plan(bayOf(1, 3, 59, 2000, 2000), 10, 20, 30));
        check.due("plan() of one box in a stack of its weight", 0, plan(bayOf(1, 1, 40, 2000, 2000), 40));
        check.due("plan() of one box in a stack of less", BayStowage.NONE,
                plan(bayOf(1, 1, 39, 2000, 2000), 40));
        for (int stacks = 2; stacks <= 3; stacks++) {
            BayStowage x = bayOf(stacks, 2, 30, 2000, 2000);
            for (int box = 0; box < stacks; box++) {
                x.box(0, 1, 30, 0);
            }
            check.due("plan() where each stack takes one", 0, x.plan());
            for (int box = 0; box < stacks; box++) {
                check.due("move(" + box + ", 3): stack by stack", box, x.move(box, 3));
            }
            x.box(0, 1, 1, 0);
            check.due("plan() of one tonne more", BayStowage.NONE, x.plan());
        }
    }

    /** "the VERTICAL moment (each weight times its tier and 1)" is "not above the bay's" */
    private static void verticalMoment(Check check) {
        check.due("plan() of 20 + 2 * 10 with 40", 0, plan(bayOf(1, 2, 200, 40, 2000), 20, 10));
        check.due("plan() of 20 + 2 * 10 with 39", BayStowage.NONE, plan(bayOf(1, 2, 200, 39, 2000), 20, 10));
        for (int most : new int[] {60, 59}) {
            BayStowage x = bayOf(2, 2, 200, most, 2000);
            plan(x, 20, 20);
            x.hand(0, 1);
            x.hand(1, 1);
            check.due("replay(2)", 2, x.replay(2));
            check.due("moment(5) of 20 + 2 * 20 with " + most, most == 60 ? 1 : 0, x.moment(5));
        }
    }

    private static void verticalOfEachTier(Check check) {
        BayStowage x = bayOf(1, 3, 200, 2000, 2000);
        plan(x, 3, 5, 7);
        int[] due = {0, 3, 3 + 2 * 5, 3 + 2 * 5 + 3 * 7};
        for (int n = 0; n < due.length; n++) {
            x.replay(n);
            check.due("moment(0) of " + n + " tiers", due[n], x.moment(0));
        }
    }

    /** "the LIST (the size of the sum ..)" is "not above the bay's": to either side */
    private static void listOnBothSides(Check check) {
        for (int stack = 0; stack < 2; stack++) {
            for (int most : new int[] {20, 19}) {
                BayStowage x = bayOf(2, 2, 200, 2000, most);
                plan(x, 10, 10);
                x.hand(0, stack);
                x.hand(1, stack);
                x.replay(2);
                check.due("moment(1) of stack " + stack, stack == 0 ? -20 : 20, x.moment(1));
                check.due("moment(5) of it with " + most, most == 20 ? 1 : 0, x.moment(5));
            }
        }
        check.due("plan() of a list of 10 with 10", 0, plan(bayOf(2, 1, 200, 2000, 10), 10));
        check.due("plan() of a list of 10 with 9", BayStowage.NONE, plan(bayOf(2, 1, 200, 2000, 9), 10));
    }

    /** "each weight times (2 stack + 1 - stacks)" */
    private static void listOfEachStack(Check check) {
        int[][] due = {{0}, {-7, 7}, {-14, 0, 14}};
        for (int[] row : due) {
            for (int stack = 0; stack < row.length; stack++) {
                BayStowage x = bayOf(row.length, 1, 200, 2000, 2000);
                plan(x, 7);
                x.hand(0, stack);
                x.replay(1);
                check.due("moment(1) of stack " + stack + " of " + row.length, row[stack], x.moment(1));
            }
        }
        check.due("plan() of one stack, no list", 0, plan(bayOf(1, 3, 200, 2000, 0), 40, 39, 38));
        check.due("plan() of three stacks, one box, no list", 0, plan(bayOf(3, 1, 200, 2000, 0), 40));
        check.due("plan() of two stacks, one box, no list", BayStowage.NONE,
                plan(bayOf(2, 1, 200, 2000, 0), 40));
    }

    private static void emptyBay(Check check) {
        for (int stacks = 1; stacks <= 3; stacks++) {
            BayStowage x = bayOf(stacks, 1, 1, 0, 0);
            check.due("moment(5) of an empty bay of the least limits", 1, x.moment(5));
            check.due("plan() of an empty bay of the least limits", 0, x.plan());
            check.due("verify() of an empty bay of the least limits", 0, x.verify());
        }
    }

    private static void leastLimits(Check check) {
        check.due("plan() of 1 tonne, all limits 1 and 0", 0, plan(bayOf(1, 1, 1, 1, 0), 1));
        check.due("plan() of 1 tonne, vertical moment 0", BayStowage.NONE, plan(bayOf(1, 1, 1, 0, 0), 1));
        check.due("plan() of 2 tonnes, stacks of 1", BayStowage.NONE, plan(bayOf(1, 1, 1, 2000, 2000), 2));
    }

    private static void mostLimits(Check check) {
        BayStowage x = bayOf(3, 3, 200, 2000, 2000);
        check.due("plan() of five of the heaviest", 0, plan(x, 40, 40, 40, 40, 40));
        x.replay(5);
        check.due("moment(0) of five of the heaviest", 40 * (1 + 2 + 1 + 2 + 3), x.moment(0));
        check.due("moment(1) of five of the heaviest", 2 * 120, x.moment(1));
        check.due("moment(5) of five of the heaviest", 1, x.moment(5));
    }

    /** "cold boxes are in stacks with a PLUG": in any tier, in any stack */
    private static void coldBoxes(Check check) {
        for (int plug = 0; plug < 3; plug++) {
            for (int stack = 0; stack < 3; stack++) {
                BayStowage x = bayOf(3, 2, 200, 2000, 2000);
                x.plug(plug, true);
                x.box(0, 1, 10, 0);
                x.box(0, 1, 10, 1);
                x.plan();
                int cold = x.move(0, 0) == 1 ? 0 : 1;
                x.hand(0, stack);
                x.hand(1, stack);
                x.replay(2);
                check.due("slot: the cold box is in stack " + stack, 1, x.slot(stack, cold));
                check.due("moment(5) with a plug in " + plug + ", cold in " + stack, plug == stack ? 1 : 0,
                        x.moment(5));
            }
        }
    }

    /** "no box of kind 2 is in the same stack as one of kind 3" */
    private static void dangersInOneStack(Check check) {
        for (int lower = 0; lower <= 3; lower++) {
            for (int upper = 0; upper <= 3; upper++) {
                boolean meet = lower + upper == 5;
                check.due("plan() of " + upper + " upon " + lower, meet ? BayStowage.NONE : 0,
                        planOfKinds(1, lower, upper));
                check.due("plan() of " + upper + " upon dry upon " + lower, meet ? BayStowage.NONE : 0,
                        planOfKinds(1, lower, 0, upper));
            }
        }
    }

    /** "nor in one beside it" */
    private static void dangersBesideEachOther(Check check) {
        check.due("plan() of 2 and 3 in two stacks", BayStowage.NONE, planOfKinds(2, 2, 3));
        check.due("plan() of 3 and 2 in two stacks", BayStowage.NONE, planOfKinds(2, 3, 2));
        check.due("plan() of 2 and 3 in three stacks", 0, planOfKinds(3, 2, 3));
        for (int kind = 2; kind <= 3; kind++) {
            for (int stack = 0; stack < 3; stack++) {
                for (int other = 0; other < 3; other++) {
                    check.due("moment(5) of " + kind + " in " + stack + ", the other danger in " + other,
                            Math.abs(stack - other) > 1 ? 1 : 0, soundOfKinds(kind, stack, 5 - kind, other));
                    check.due("moment(5) of " + kind + " in " + stack + " and " + other,
                            1, soundOfKinds(kind, stack, kind, other));
                }
            }
        }
    }

    private static int soundOfKinds(int kind, int stack, int otherKind, int otherStack) {
        BayStowage x = bayOf(3, 2, 200, 2000, 2000);
        x.box(0, 1, 10, kind);
        x.box(0, 1, 10, otherKind);
        x.plan();
        x.hand(0, stack);
        x.hand(1, otherStack);
        x.replay(2);
        return x.moment(5);
    }

    private static int planOfKinds(int stacks, int... kinds) {
        BayStowage x = bayOf(stacks, 3, 200, 2000, 2000);
        for (int stack = 0; stack < stacks; stack++) {
            x.plug(stack, true);
        }
        for (int kind : kinds) {
            x.box(0, 1, 10, kind);
        }
        return x.plan();
    }

    private static BayStowage bayOf(int stacks, int tiers, int tonnes, int vertical, int list) {
        BayStowage x = new BayStowage();
        x.bay(stacks, tiers, 2, tonnes, vertical, list);
        return x;
    }

    private static int plan(BayStowage x, int... weights) {
        for (int weight : weights) {
            x.box(0, 1, weight, 0);
        }
        return x.plan();
    }
}
