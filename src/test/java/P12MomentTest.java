public final class P12MomentTest {
    public static void main(String[] args) {
        Check check = new Check("promise 12");
        answers(check);
        threeStacks(check);
        sound(check);
        emptyBay(check);
        stackThatTheBayHasNot(check);
        noSuchWhat(check);
        check.end();
    }

    private static void answers(Check check) {
        BayStowage x = Voyages.twoStacks();
        dueAll(check, "before replay", x, 0, 0, 0, 0, 0, 1);
        x.replay(2);
        dueAll(check, "of 0 and 1 in stack 1", x, 50, 30, 0, 30, 0, 1);
        x.hand(0, 0);
        x.hand(1, 0);
        x.replay(2);
        dueAll(check, "of 0 and 1 in stack 0", x, 50, -30, 30, 0, 0, 1);
        x.hand(1, 1);
        x.replay(2);
        dueAll(check, "of 0 and 1 side by side", x, 30, 10, 10, 20, 0, 1);
        BayStowage y = Voyages.oneStack();
        y.replay(3);
        dueAll(check, "of one stack: no list", y, 1 + 4 + 9, 0, 6, 0, 0, 1);
    }

    private static void threeStacks(Check check) {
        BayStowage x = new BayStowage();
        x.bay(3, 2, 2, 200, 2000, 2000);
        x.box(0, 1, 3, 0);
        x.box(0, 1, 5, 0);
        x.box(0, 1, 7, 0);
        x.plan();
        x.hand(0, 0);
        x.hand(1, 1);
        x.hand(2, 2);
        x.replay(3);
        dueAll(check, "of three stacks", x, 15, 2 * (7 - 3), 3, 5, 7, 1);
    }

    private static void sound(Check check) {
        check.due("sound at the most of all", 1, soundOf(30, 40, 30, 0, 0, true));
        check.due("vertical moment one above", 0, soundOf(30, 39, 30, 0, 0, true));
        check.due("list one above", 0, soundOf(30, 40, 29, 0, 0, true));
        check.due("cold with a plug", 1, soundOf(30, 40, 30, 1, 1, true));
        check.due("cold without a plug", 0, soundOf(30, 40, 30, 1, 1, false));
        check.due("cold without a plug, upon dry", 0, soundOf(30, 40, 30, 0, 1, false));
        check.due("two dangers in a stack", 0, soundOf(30, 40, 30, 2, 3, true));
        check.due("two dangers in a stack, other way round", 0, soundOf(30, 40, 30, 3, 2, true));
        check.due("one danger twice in a stack", 1, soundOf(30, 40, 30, 3, 3, true));
        check.due("dangers beside each other", 0, besideOf(0, 1));
        check.due("dangers beside each other, other way round", 0, besideOf(2, 1));
        check.due("dangers with a stack between", 1, besideOf(0, 2));
    }

    /** Boxes of 20 and 10 tonnes, by hand upon each other in stack 0, the one without a plug. */
    private static int soundOf(int tonnes, int vertical, int list, int lower, int upper, boolean plug) {
        BayStowage x = new BayStowage();
        x.bay(3, 2, 2, tonnes, vertical, 2 * list);
        x.plug(2, true);
        x.plug(1, true);
        x.plug(0, plug);
        x.box(0, 1, 20, lower);
        x.box(0, 1, 10, upper);
        x.plan();
        if (x.moves() == 0) {
            return BayStowage.NONE;
        }
        boolean lowerFirst = x.move(0, 0) == 0;
        x.hand(0, 0);
        x.hand(1, 0);
        return lowerFirst && x.replay(2) == 2 ? x.moment(5) : BayStowage.NONE;
    }

    private static int besideOf(int stack, int other) {
        BayStowage x = new BayStowage();
        x.bay(3, 2, 2, 200, 2000, 2000);
        x.box(0, 1, 20, 2);
        x.box(0, 1, 10, 3);
        x.plan();
        x.hand(0, stack);
        x.hand(1, other);
        x.replay(2);
        return x.moment(5);
    }

    private static void dueAll(Check check, String when, BayStowage x, int... want) {
        for (int what = 0; what < want.length; what++) {
            check.due("moment(" + what + ") " + when, want[what], x.moment(what));
        }
    }

    private static void emptyBay(Check check) {
        dueAll(check, "of a new object", new BayStowage(), 0, 0, 0, 0, 0, 1);
        dueAll(check, "with no plan to be found", Voyages.unplannable(), 0, 0, 0, 0, 0, 1);
        for (int stacks = 1; stacks <= 3; stacks++) {
            BayStowage x = new BayStowage();
            x.bay(stacks, 1, 2, 1, 0, 0);
            dueAll(check, "of an empty bay of the least limits", x, 0, 0, 0, 0, 0, 1);
        }
        BayStowage y = Voyages.oneStack();
        y.replay(8);
        dueAll(check, "when all are off again", y, 0, 0, 0, 0, 0, 1);
    }

    /** "2 .. 4 the weight of stack 0 .. 2 (0 if the bay hasn't it)" */
    private static void stackThatTheBayHasNot(Check check) {
        for (int stacks = 1; stacks <= 3; stacks++) {
            BayStowage x = new BayStowage();
            x.bay(stacks, 1, 2, 200, 2000, 2000);
            for (int box = 0; box < stacks; box++) {
                x.box(0, 1, 10 + box, 0);
            }
            x.plan();
            x.replay(stacks);
            for (int stack = 0; stack < 3; stack++) {
                check.due("moment(" + (2 + stack) + ") of " + stacks + " stacks",
                        stack < stacks ? 10 + stack : 0, x.moment(2 + stack));
            }
        }
        BayStowage wide = new BayStowage();
        wide.bay(3, 1, 2, 200, 2000, 2000);
        wide.box(0, 1, 10, 0);
        wide.plan();
        wide.replay(1);
        check.due("moment(4) of three stacks", 10, wide.moment(4));
        wide.bay(1, 1, 2, 200, 2000, 2000);
        check.due("moment(4) of one stack from then on", 0, wide.moment(4));
        wide.box(0, 1, 10, 0);
        wide.plan();
        wide.hand(0, 2);
        wide.replay(1);
        check.due("moment(4): nothing is put on a stack that there isn't", 0, wide.moment(4));
    }

    private static void noSuchWhat(Check check) {
        BayStowage x = Voyages.twoStacks();
        check.fits("moment(0)", () -> x.moment(0));
        check.fits("moment(5)", () -> x.moment(5));
        for (int what : new int[] {-1, 6, 7, Integer.MIN_VALUE, Integer.MAX_VALUE}) {
            check.refusedArgument("moment(" + what + ")", Voyages::twoStacksAtPort0, y -> y.moment(what));
            check.refusedArgument("moment(" + what + ") of a new object", BayStowage::new, y -> y.moment(what));
        }
    }
}
