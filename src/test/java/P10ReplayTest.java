public final class P10ReplayTest {
    public static void main(String[] args) {
        Check check = new Check("promise 10");
        allMoves(check);
        badMoves(check);
        tooHeavy(check);
        noneAndAll(check);
        upToTheFirstBadOne(check);
        noPlan(check);
        tooFewAndTooMany(check);
        check.end();
    }

    private static void allMoves(Check check) {
        int[][] due = {{}, {0}, {0, 1}, {0, 1, 2}, {0, 1}, {0}, {0, 2}, {0}, {}};
        BayStowage x = Voyages.oneStack();
        for (int n = 8; n >= 0; n--) {
            check.due("replay(" + n + ")", n, x.replay(n));
            for (int tier = 0; tier < 3; tier++) {
                int want = tier < due[n].length ? due[n][tier] : BayStowage.NONE;
                check.due("slot(0, " + tier + ") after " + n, want, x.slot(0, tier));
            }
        }
        x.replay(3);
        check.due("replay(2): from an empty bay", 2, x.replay(2));
        check.due("slot(0, 2)", BayStowage.NONE, x.slot(0, 2));
    }

    private static void badMoves(Check check) {
        BayStowage x = Voyages.twoStacks();
        x.hand(1, 0);
        check.due("replay(6): 1 isn't in stack 1", 2, x.replay(6));
        check.due("slot(0, 0): the crane stands where it stopped", 1, x.slot(0, 0));
        check.due("slot(1, 0): the crane stands where it stopped", 0, x.slot(1, 0));
        check.due("replay(1): ahead of the bad one", 1, x.replay(1));
        x.hand(1, 2);
        check.due("replay(6): no stack 2", 1, x.replay(6));
        x.hand(0, 2);
        check.due("replay(6): no stack 2 for the first", 0, x.replay(6));
        check.emptyCrane("after no move", x);
        BayStowage y = Voyages.twoStacks();
        y.box(0, 2, 1, 0);
        y.plan();
        check.dueMoves("with 0 in stack 0", y,
                "0@0 .>0, 3@0 .>1, 1@0 .>1, 1@1 1>., 2@1 .>1, 0@2 0>., 2@2 1>., 3@2 1>.");
        y.hand(0, 1);
        check.due("replay(8): no tier left", 2, y.replay(8));
        check.due("slot(1, 1)", 3, y.slot(1, 1));
        BayStowage z = Voyages.twoStacks();
        z.hand(0, 0);
        check.due("replay(6): 0 is in stack 0 at the end", 5, z.replay(6));
    }

    private static void tooHeavy(Check check) {
        for (int tonnes : new int[] {30, 29}) {
            BayStowage x = new BayStowage();
            x.bay(2, 2, 2, tonnes, 2000, 2000);
            x.box(0, 1, 20, 0);
            x.box(0, 1, 10, 0);
            x.plan();
            x.hand(0, 1);
            x.hand(1, 1);
            check.due("replay(2) within " + tonnes + " tonnes", tonnes == 30 ? 2 : 1, x.replay(2));
        }
    }

    private static void noneAndAll(Check check) {
        BayStowage x = Voyages.oneStackAtPort2();
        check.due("replay(0)", 0, x.replay(0));
        check.emptyCrane("after replay(0)", x);
        check.due("replay(8)", 8, x.replay(8));
        check.emptyCrane("after replay(8): all are off", x);
        check.due("replay(7)", 7, x.replay(7));
        check.due("slot(0, 0): the last one is still aboard", 0, x.slot(0, 0));
    }

    /** The first move, one in the middle and the last one; n just ahead of it, on it and behind it. */
    private static void upToTheFirstBadOne(Check check) {
        for (int bad : new int[] {0, 1, 2, 5}) {
            BayStowage x = Voyages.oneStack();
            x.hand(bad, 1);
            for (int n = 0; n <= 8; n++) {
                check.due("replay(" + n + ") with move " + bad + " bad", Math.min(n, bad), x.replay(n));
            }
        }
        BayStowage y = Voyages.twoStacks();
        y.hand(0, 0);
        check.due("replay(5) with the last move bad", 5, y.replay(5));
        check.due("replay(6) with the last move bad", 5, y.replay(6));
        check.due("slot(0, 0): left aboard", 0, y.slot(0, 0));
    }

    private static void noPlan(Check check) {
        for (BayStowage x : new BayStowage[] {
            new BayStowage(), Voyages.booked(), Voyages.unplannable(), Voyages.plannedEmpty()}) {
            check.due("replay(0) of no moves", 0, x.replay(0));
            check.emptyCrane("after replay(0) of no moves", x);
            check.badArgument("replay(1) of no moves", () -> x.replay(1));
            check.badArgument("replay(-1) of no moves", () -> x.replay(-1));
        }
    }

    private static void tooFewAndTooMany(Check check) {
        for (int n : new int[] {-1, 9, 10, Integer.MIN_VALUE, Integer.MAX_VALUE}) {
            check.refusedArgument("replay(" + n + ") of eight", Voyages::oneStackAtPort2, x -> x.replay(n));
        }
        for (int n : new int[] {-1, 7}) {
            check.refusedArgument("replay(" + n + ") of six by hand", Voyages::twoStacksByHand, x -> x.replay(n));
        }
    }
}
