import java.util.function.Consumer;

public final class P13VerifyTest {
    public static void main(String[] args) {
        Check check = new Check("promise 13");
        voyages(check);
        badMoves(check);
        unsoundDepartures(check);
        badMoveBeforeDeparture(check);
        firstAndLastMove(check);
        eachDeparture(check);
        planOfNothing(check);
        onABayOfItsOwn(check);
        noPlan(check);
        check.end();
    }

    private static void voyages(Check check) {
        check.due("verify() of one stack", 0, Voyages.oneStack().verify());
        BayStowage x = Voyages.twoStacks();
        check.due("verify() of two stacks", 0, x.verify());
        x.replay(2);
        x.verify();
        check.due("slot(1, 1): the crane's bay is another", 1, x.slot(1, 1));
        x.hand(3, 0);
        check.due("verify(): 2 is in stack 0, not in 1", 5, x.verify());
        check.due("verify() again", 5, x.verify());
    }

    private static void badMoves(Check check) {
        BayStowage x = Voyages.oneStack();
        int[] puts = {0, 1, 2, 5};
        for (int i : puts) {
            x.hand(i, 1);
            check.due("verify() with move " + i + " to no stack", i + 1, x.verify());
            x.hand(i, 0);
            check.due("verify() with move " + i + " as it was", 0, x.verify());
        }
        x.hand(5, 1);
        x.hand(1, 2);
        check.due("verify(): the first bad one", 2, x.verify());
    }

    /** By hand a box stands where no plan would put it; no move is bad, but the ship can't depart. */
    private static void unsoundDepartures(Check check) {
        BayStowage x = new BayStowage();
        x.bay(2, 2, 3, 100, 2000, 10);
        x.box(0, 2, 10, 0);
        x.box(0, 2, 10, 0);
        x.box(1, 2, 5, 0);
        check.due("plan()", 0, x.plan());
        check.dueMoves("side by side", x, "0@0 .>0, 1@0 .>1, 2@1 .>1, 0@2 0>., 2@2 1>., 1@2 1>.");
        x.hand(0, 1);
        check.due("verify(): a list of 20 at port 0", 2, x.verify());
        BayStowage y = new BayStowage();
        y.bay(2, 2, 4, 100, 2000, 10);
        y.box(1, 3, 10, 0);
        y.box(2, 3, 20, 0);
        check.due("plan()", 0, y.plan());
        check.dueMoves("from port 1 on", y, "0@1 .>1, 1@2 .>0, 1@3 0>., 0@3 1>.");
        y.hand(1, 1);
        check.due("verify(): a list of 30 at port 2", 2, y.verify());
        y.hand(1, 0);
        y.hand(0, 0);
        check.due("verify(): a list of 30 at port 2, as 0 went over", 2, y.verify());
        BayStowage z = new BayStowage();
        z.bay(3, 1, 2, 100, 2000, 10);
        z.box(0, 1, 10, 0);
        z.plan();
        check.dueMoves("in the middle", z, "0@0 .>1, 0@1 1>.");
        z.hand(0, 2);
        check.due("verify(): a list of 20", 1, z.verify());
    }

    private static void badMoveBeforeDeparture(Check check) {
        BayStowage x = new BayStowage();
        x.bay(2, 2, 3, 100, 2000, 10);
        x.box(0, 2, 10, 0);
        x.box(0, 1, 10, 0);
        x.plan();
        check.due("verify()", 0, x.verify());
        x.hand(0, 1);
        check.due("verify(): the departure at port 0 goes before the bad move at port 1", 2, x.verify());
        x.hand(1, 2);
        check.due("verify(): the bad move at port 0 goes before its departure", 2, x.verify());
        x.hand(0, 2);
        check.due("verify(): the first move is bad", 1, x.verify());
    }

    /** "the number from 1 on of the first bad move" */
    private static void firstAndLastMove(Check check) {
        BayStowage x = Voyages.oneStack();
        x.hand(0, 1);
        check.due("verify() with the first move bad", 1, x.verify());
        BayStowage y = Voyages.twoStacks();
        y.hand(0, 0);
        check.due("verify() with the last move bad", 6, y.verify());
        y.hand(0, 1);
        check.due("verify() as it was", 0, y.verify());
    }

    /** "for a departure that isn't so, how many moves come ahead of it": at the first port, in between, the last */
    private static void eachDeparture(Check check) {
        for (int port = 0; port < 3; port++) {
            BayStowage x = new BayStowage();
            x.bay(2, 2, 4, 100, 2000, 2000);
            x.plug(1, true);
            for (int before = 0; before < port; before++) {
                x.box(before, before + 1, 10, 0);
            }
            x.box(port, port + 1, 10, 1);
            check.due("plan()", 0, x.plan());
            check.due("verify()", 0, x.verify());
            int last = 2 * port;
            check.due("move(" + last + ", 0): the cold one", port, x.move(last, 0));
            x.hand(last, 0);
            check.due("verify() with the departure from " + port + " unsound", last + 1, x.verify());
        }
    }

    private static void planOfNothing(Check check) {
        check.due("verify() of a plan of nothing", 0, Voyages.plannedEmpty().verify());
        for (int ports = 2; ports <= 4; ports++) {
            BayStowage x = new BayStowage();
            x.bay(1, 1, ports, 1, 0, 0);
            x.plan();
            check.due("verify() of nothing and " + ports + " ports", 0, x.verify());
        }
        BayStowage y = new BayStowage();
        y.bay(1, 1, 4, 1, 1, 0);
        y.box(2, 3, 1, 0);
        y.plan();
        check.due("verify(): departures ahead of all moves", 0, y.verify());
    }

    /** "(on a bay of its own)": what the crane has doesn't matter, nor is it changed. */
    private static void onABayOfItsOwn(Check check) {
        for (int n = 0; n <= 8; n++) {
            BayStowage x = Voyages.oneStack();
            x.replay(n);
            String before = Probe.seen(x);
            check.due("verify() after replay(" + n + ")", 0, x.verify());
            check.isTrue("verify() after replay(" + n + ") changes nothing", before.equals(Probe.seen(x)));
        }
        BayStowage y = Voyages.twoStacksByHand();
        check.due("verify() by hand", 3, y.verify());
        check.due("slot(0, 0): the crane keeps what it has", 1, y.slot(0, 0));
        check.due("slot(1, 0): the crane keeps what it has", 0, y.slot(1, 0));
    }

    private static void noPlan(Check check) {
        check.refusedState("verify() of a new object", BayStowage::new, BayStowage::verify);
        check.refusedState("verify() of boxes alone", Voyages::booked, BayStowage::verify);
        check.refusedState("verify() with no plan to be found", Voyages::unplannable, BayStowage::verify);
        check.badState("verify() after bay", () -> after(x -> x.bay(2, 2, 3, 100, 1000, 1000)).verify());
        check.badState("verify() after plug", () -> after(x -> x.plug(0, false)).verify());
        check.badState("verify() after box", () -> after(x -> x.box(0, 1, 1, 0)).verify());
        check.badState("verify() after roll", () -> after(x -> x.roll(0)).verify());
        check.fits("verify() after replay", () -> after(x -> x.replay(0)).verify());
        check.fits("verify() after hand", () -> after(x -> x.hand(0, 0)).verify());
        check.fits("verify() after verify", () -> after(BayStowage::verify).verify());
        BayStowage y = Voyages.unplannable();
        y.roll(0);
        check.badState("verify() after roll", y::verify);
        y.plan();
        check.due("verify() of no moves", 0, y.verify());
    }

    private static BayStowage after(Consumer<BayStowage> call) {
        BayStowage x = Voyages.twoStacks();
        call.accept(x);
        return x;
    }
}
