/** Terms: the crane's bay at the start, and each way in which a move is bad, beside the last one that isn't. */
public final class T5CraneTest {
    public static void main(String[] args) {
        Check check = new Check("terms, the crane");
        startsEmpty(check);
        beneathAnother(check);
        inAnotherStack(check);
        noTierLeft(check);
        tooHeavy(check);
        noSuchStack(check);
        unsoundIsNotBad(check);
        check.end();
    }

    /** "The CRANE starts with an empty bay at port 0." */
    private static void startsEmpty(Check check) {
        check.emptyCrane("of a new object", new BayStowage());
        BayStowage x = Voyages.oneStack();
        check.emptyCrane("of a plan", x);
        x.replay(8);
        check.due("replay(1): from an empty bay again", 1, x.replay(1));
        check.due("slot(0, 0)", 0, x.slot(0, 0));
        check.due("slot(0, 1)", BayStowage.NONE, x.slot(0, 1));
        check.due("move(0, 1): at port 0", 0, x.move(0, 1));
    }

    /** "its box isn't on top of the stack it is to be taken from": it is there, with another one upon it */
    private static void beneathAnother(Check check) {
        BayStowage x = Voyages.alike(2, 2, 3);
        check.dueMoves("of three boxes", x, "0@0 .>0, 1@0 .>1, 2@0 .>1, 0@1 0>., 2@1 1>., 1@1 1>.");
        check.due("replay(6): each on top of its stack", 6, x.replay(6));
        x.hand(1, 0);
        check.due("replay(6): 0 is beneath 1", 3, x.replay(6));
        check.due("verify(): 0 is beneath 1", 4, x.verify());
        check.due("slot(0, 0) as it was", 0, x.slot(0, 0));
        check.due("slot(0, 1) as it was", 1, x.slot(0, 1));
    }

    /** The same: it is in another stack, and the one it is to be taken from is empty or has another on top. */
    private static void inAnotherStack(Check check) {
        BayStowage x = Voyages.alike(2, 2, 1);
        x.hand(0, 0);
        check.due("replay(2): stack 1 is empty", 1, x.replay(2));
        check.due("verify()", 2, x.verify());
        BayStowage y = sideBySide(80);
        y.hand(0, 1);
        check.due("replay(4): stack 0 is empty", 2, y.replay(4));
        y.hand(0, 0);
        check.due("replay(4): back again", 4, y.replay(4));
        BayStowage z = Voyages.twoStacks();
        z.hand(1, 0);
        check.due("replay(6): stack 1 has 0 on top", 2, z.replay(6));
    }

    /** "the stack it is to be put on has no tier left" */
    private static void noTierLeft(Check check) {
        for (int tiers = 1; tiers <= 3; tiers++) {
            BayStowage x = Voyages.alike(2, tiers, tiers + 1);
            for (int i = 0; i <= tiers; i++) {
                x.hand(i, 0);
            }
            check.due("replay(" + tiers + "): the last tier", tiers, x.replay(tiers));
            check.due("slot: the last tier", tiers - 1, x.slot(0, tiers - 1));
            check.due("replay(" + (tiers + 1) + "): no tier left", tiers, x.replay(tiers + 1));
            check.due("verify(): no tier left", tiers + 1, x.verify());
            check.due("moment(2) as it was", tiers, x.moment(2));
        }
    }

    /** "or would weigh too much" */
    private static void tooHeavy(Check check) {
        for (int tonnes : new int[] {80, 79}) {
            BayStowage x = sideBySide(tonnes);
            x.hand(0, 1);
            int done = tonnes == 80 ? 2 : 1;
            check.due("replay(2) of 80 tonnes on a stack of " + tonnes, done, x.replay(2));
            check.due("moment(3)", 40 * done, x.moment(3));
        }
    }

    /** "or taken to a stack that there isn't" */
    private static void noSuchStack(Check check) {
        for (int stacks = 1; stacks <= 3; stacks++) {
            for (int stack = 0; stack <= 2; stack++) {
                BayStowage x = Voyages.alike(stacks, 1, 1);
                x.hand(0, stack);
                check.due("replay(1) to stack " + stack + " of " + stacks, stack < stacks ? 1 : 0, x.replay(1));
                check.due("moment of stack " + stack, stack < stacks ? 1 : 0, x.moment(2 + stack));
            }
        }
    }

    /** What a departure must not have is no bad move: the crane does it, and verify tells of the departure. */
    private static void unsoundIsNotBad(Check check) {
        BayStowage x = new BayStowage();
        x.bay(2, 1, 2, 200, 2000, 2000);
        x.plug(1, true);
        x.box(0, 1, 10, 1);
        x.plan();
        x.hand(0, 0);
        check.due("replay(1): a cold box where no plug is", 1, x.replay(1));
        check.due("moment(5)", 0, x.moment(5));
        check.due("verify(): the departure behind move 1", 1, x.verify());
    }

    /** Two boxes of 40 tonnes in stacks 0 and 1, as the list wants it. */
    private static BayStowage sideBySide(int tonnes) {
        BayStowage x = new BayStowage();
        x.bay(2, 3, 2, tonnes, 2000, 0);
        x.box(0, 1, 40, 0);
        x.box(0, 1, 40, 0);
        x.plan();
        return x;
    }
}
