public final class P14ReportTest {
    private static final int[] FAR_OFF = {Integer.MIN_VALUE, Integer.MAX_VALUE};

    public static void main(String[] args) {
        Check check = new Check("promise 14");
        answers(check);
        byHand(check);
        noPlan(check);
        noSuchPort(check);
        noSuchWhat(check);
        check.end();
    }

    private static void answers(Check check) {
        dueAll(check, "one stack", Voyages.oneStack(), new int[][] {{2, 0, 0}, {1, 0, 0}, {0, 1, 1}, {0, 2, 0}});
        dueAll(check, "two stacks", Voyages.twoStacks(), new int[][] {{2, 0, 0}, {1, 1, 0}, {0, 2, 0}});
        dueAll(check, "the most shifts", Voyages.mostShifts(),
                new int[][] {{4, 0, 0}, {1, 0, 4}, {0, 1, 4}, {0, 4, 0}});
        for (int boxes = 0; boxes <= 5; boxes++) {
            dueAll(check, boxes + " boxes", Voyages.alike(3, 2, boxes), new int[][] {{boxes, 0, 0}, {0, boxes, 0}});
        }
    }

    /** It tells of the moves, whatever the crane did or can do. */
    private static void byHand(Check check) {
        int[][] due = {{2, 0, 0}, {1, 0, 0}, {0, 1, 1}, {0, 2, 0}};
        BayStowage x = Voyages.oneStackAtPort2();
        dueAll(check, "one stack after replay", x, due);
        x.hand(0, 2);
        x.hand(5, 1);
        dueAll(check, "one stack by hand", x, due);
        x.replay(8);
        dueAll(check, "one stack by hand after replay", x, due);
    }

    private static void noPlan(Check check) {
        dueAll(check, "a new object", new BayStowage(), new int[3][3]);
        dueAll(check, "boxes alone", Voyages.booked(), new int[2][3]);
        dueAll(check, "no plan to be found", Voyages.unplannable(), new int[3][3]);
        dueAll(check, "a plan of nothing", Voyages.plannedEmpty(), new int[3][3]);
        BayStowage x = Voyages.oneStack();
        x.box(0, 1, 1, 1);
        dueAll(check, "a plan that is gone", x, new int[4][3]);
        x.plan();
        dueAll(check, "no plan to be found any more", x, new int[4][3]);
    }

    private static void noSuchPort(Check check) {
        for (int ports = 2; ports <= 4; ports++) {
            int most = ports;
            BayStowage x = oneBox(ports);
            check.due("report(0, 0) of " + ports, 1, x.report(0, 0));
            check.due("report of the last of " + ports, 1, x.report(ports - 1, 1));
            for (int port : new int[] {-1, ports, FAR_OFF[0], FAR_OFF[1]}) {
                for (int what = 0; what <= 2; what++) {
                    int told = what;
                    check.refusedArgument("report(" + port + ", " + what + ") of " + ports, () -> oneBox(most),
                            y -> y.report(port, told));
                }
            }
        }
    }

    private static void noSuchWhat(Check check) {
        for (int what : new int[] {-1, 3, 4, FAR_OFF[0], FAR_OFF[1]}) {
            for (int port : new int[] {-1, 0, 1, 2, 3}) {
                check.refusedArgument("report(" + port + ", " + what + ")", Voyages::twoStacksAtPort0,
                        x -> x.report(port, what));
            }
        }
    }

    private static BayStowage oneBox(int ports) {
        BayStowage x = new BayStowage();
        x.bay(1, 1, ports, 200, 2000, 2000);
        x.box(0, ports - 1, 1, 0);
        x.plan();
        x.replay(1);
        return x;
    }

    private static void dueAll(Check check, String when, BayStowage x, int[][] want) {
        for (int port = 0; port < want.length; port++) {
            for (int what = 0; what < 3; what++) {
                check.due("report(" + port + ", " + what + ") of " + when, want[port][what], x.report(port, what));
            }
        }
    }
}
