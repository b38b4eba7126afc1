public final class P07MovesTest {
    public static void main(String[] args) {
        Check check = new Check("promise 7");
        BayStowage x = new BayStowage();
        check.due("moves() of a new object", 0, x.moves());
        check.due("moves() of one stack, a shift is two moves", 8, Voyages.oneStack().moves());
        check.due("moves() of two stacks", 6, Voyages.twoStacks().moves());
        BayStowage y = Voyages.twoStacks();
        y.hand(0, 2);
        y.replay(0);
        check.due("moves() after hand and replay", 6, y.moves());
        y.box(0, 2, 1, 1);
        check.due("moves() without a plan", 0, y.moves());
        y.plan();
        check.due("moves() when there is no plan", 0, y.moves());
        manyMoves(check);
        check.end();
    }

    /** Weights that balance in few ways: nearly all that stays aboard is shifted at each port. */
    private static void manyMoves(Check check) {
        BayStowage x = new BayStowage();
        x.bay(3, 3, 4, 200, 2000, 1);
        x.box(0, 3, 10, 0);
        x.box(0, 3, 20, 0);
        x.box(0, 2, 13, 0);
        x.box(1, 3, 17, 0);
        x.box(1, 2, 5, 0);
        check.due("plan() of five boxes", 6, x.plan());
        check.due("moves(): two a box and two a shift", 2 * 5 + 2 * 6, x.moves());
        check.due("verify() of five boxes", 0, x.verify());
    }
}
