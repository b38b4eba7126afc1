/** Terms: with which boxes the ship departs, at a box's first port, at its last one and on either side of them. */
public final class T3DeparturesTest {
    private static final int PORTS = 4;

    public static void main(String[] args) {
        Check check = new Check("terms, departures");
        everyJourney(check);
        oneSlotAfterAnother(check);
        oneSlotAtOnce(check);
        soundAtEachDeparture(check);
        check.end();
    }

    /** "the boxes whose from is not behind the port and whose to is; at the last port nothing is left" */
    private static void everyJourney(Check check) {
        for (int from = 0; from < PORTS; from++) {
            for (int to = from + 1; to < PORTS; to++) {
                BayStowage x = oneSlot();
                x.box(from, to, 1, 0);
                check.due("plan()", 0, x.plan());
                check.dueMoves("from " + from + " to " + to, x, "0@" + from + " .>0, 0@" + to + " 0>.");
                check.due("verify()", 0, x.verify());
                x.replay(2);
                check.emptyCrane("when all is done", x);
                for (int port = 0; port < PORTS; port++) {
                    sharedSlot(check, from, to, port);
                }
            }
        }
    }

    /** Two boxes want the one slot at a departure just if the other one's journey has it too. */
    private static void sharedSlot(Check check, int from, int to, int port) {
        if (port == PORTS - 1) {
            return;
        }
        BayStowage x = oneSlot();
        x.box(from, to, 1, 0);
        x.box(port, port + 1, 1, 0);
        boolean aboard = from <= port && port < to;
        check.due("plan() with a box from " + from + " to " + to + " and one that departs from " + port + " alone",
                aboard ? BayStowage.NONE : 0, x.plan());
    }

    private static void oneSlotAfterAnother(Check check) {
        BayStowage x = oneSlot();
        for (int port = 0; port < PORTS - 1; port++) {
            x.box(port, port + 1, 1, 0);
        }
        check.due("plan() of a box a departure", 0, x.plan());
        check.dueMoves("off before on", x, "0@0 .>0, 0@1 0>., 1@1 .>0, 1@2 0>., 2@2 .>0, 2@3 0>.");
    }

    private static void oneSlotAtOnce(Check check) {
        for (int port = 0; port < PORTS - 1; port++) {
            BayStowage x = oneSlot();
            x.box(port, port + 1, 1, 0);
            x.box(port, port + 1, 1, 0);
            check.due("plan() of two boxes in one slot at departure " + port, BayStowage.NONE, x.plan());
            check.noPlan("with two boxes in one slot at departure " + port, x);
        }
    }

    /** "At each port but the last one the ship DEPARTS with a sound arrangement" */
    private static void soundAtEachDeparture(Check check) {
        for (int port = 0; port < PORTS - 1; port++) {
            BayStowage x = new BayStowage();
            x.bay(1, 2, PORTS, 20, 2000, 2000);
            x.box(0, PORTS - 1, 10, 0);
            x.box(port, port + 1, 10, 0);
            check.due("plan() of 20 tonnes at departure " + port, 0, x.plan());
            x.bay(1, 2, PORTS, 20, 2000, 2000);
            x.box(0, PORTS - 1, 10, 0);
            x.box(port, port + 1, 11, 0);
            check.due("plan() of 21 tonnes at departure " + port, BayStowage.NONE, x.plan());
        }
    }

    private static BayStowage oneSlot() {
        BayStowage x = new BayStowage();
        x.bay(1, 1, PORTS, 200, 2000, 2000);
        return x;
    }
}
