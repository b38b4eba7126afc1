public final class P13VerifyTest {
    public static void main(String[] args) {
        Check check = new Check("promise 13");
        voyages(check);
        badMoves(check);
        unsoundDepartures(check);
        badMoveBeforeDeparture(check);
        noPlan(check);
        check.end();
    }

    private static void voyages(Check check) {
        check.due("verify() of one stack", 0, Voyages.oneStack().verify());
        BayStowage x = Voyages.twoStacks();
        check.due("verify() of two stacks", 0, x.verify());
        x.replay(2);
        x.verify();
        check.due("slot(1, 1): the crane's bay is another", 1, x.slot(1, 1));
        x.hand(3, 0);
        check.due("verify(): 2 is in stack 0, not in 1", 5, x.verify());
        check.due("verify() again", 5, x.verify());
    }

    private static void badMoves(Check check) {
        BayStowage x = Voyages.oneStack();
        int[] puts = {0, 1, 2, 5};
        for (int i : puts) {
            x.hand(i, 1);
            check.due("verify() with move " + i + " to no stack", i + 1, x.verify());
            x.hand(i, 0);
            check.due("verify() with move " + i + " as it was", 0, x.verify());
        }
        x.hand(5, 1);
        x.hand(1, 2);
        check.due("verify(): the first bad one", 2, x.verify());
    }

    /** By hand a box stands where no plan would put it; no move is bad, but the ship can't depart. */
    private static void unsoundDepartures(Check check) {
        BayStowage x = new BayStowage();
        x.bay(2, 2, 3, 100, 2000, 10);
        x.box(0, 2, 10, 0);
        x.box(0, 2, 10, 0);
        x.box(1, 2, 5, 0);
        check.due("plan()", 0, x.plan());
        check.dueMoves("side by side", x, "0@0 .>0, 1@0 .>1, 2@1 .>1, 0@2 0>., 2@2 1>., 1@2 1>.");
        x.hand(0, 1);
        check.due("verify(): a list of 20 at port 0", 2, x.verify());
        BayStowage y = new BayStowage();
        y.bay(2, 2, 4, 100, 2000, 10);
        y.box(1, 3, 10, 0);
        y.box(2, 3, 20, 0);
        check.due("plan()", 0, y.plan());
        check.dueMoves("from port 1 on", y, "0@1 .>1, 1@2 .>0, 1@3 0>., 0@3 1>.");
        y.hand(1, 1);
        check.due("verify(): a list of 30 at port 2", 2, y.verify());
        y.hand(1, 0);
        y.hand(0, 0);
        check.due("verify(): a list of 30 at port 2, as 0 went over", 2, y.verify());
        BayStowage z = new BayStowage();
        z.bay(3, 1, 2, 100, 2000, 10);
        z.box(0, 1, 10, 0);
        z.plan();
        check.dueMoves("in the middle", z, "0@0 .>1, 0@1 1>.");
        z.hand(0, 2);
        check.due("verify(): a list of 20", 1, z.verify());
    }

    private static void badMoveBeforeDeparture(Check check) {
        BayStowage x = new BayStowage();
        x.bay(2, 2, 3, 100, 2000, 10);
        x.box(0, 2, 10, 0);
        x.box(0, 1, 10, 0);
        x.plan();
        check.due("verify()", 0, x.verify());
        x.hand(0, 1);
        check.due("verify(): the departure at port 0 goes before the bad move at port 1", 2, x.verify());
        x.hand(1, 2);
        check.due("verify(): the bad move at port 0 goes before its departure", 2, x.verify());
        x.hand(0, 2);
        check.due("verify(): the first move is bad", 1, x.verify());
    }

    private static void noPlan(Check check) {
        BayStowage x = new BayStowage();
        check.badState("verify() of a new object", x::verify);
        x.box(0, 1, 1, 1);
        x.plan();
        check.badState("verify() when there is no plan", x::verify);
        x.roll(0);
        x.plan();
        check.due("verify() of no moves", 0, x.verify());
    }
}
