public final class P14ReportTest {
    public static void main(String[] args) {
        Check check = new Check("promise 14");
        int[][] oneStack = {{2, 0, 0}, {1, 0, 0}, {0, 1, 1}, {0, 2, 0}};
        dueAll(check, "one stack", Voyages.oneStack(), oneStack);
        dueAll(check, "two stacks", Voyages.twoStacks(), new int[][] {{2, 0, 0}, {1, 1, 0}, {0, 2, 0}});
        BayStowage x = Voyages.oneStack();
        x.hand(0, 2);
        dueAll(check, "one stack by hand", x, oneStack);
        x.box(0, 1, 1, 1);
        dueAll(check, "no plan", x, new int[4][3]);
        x.plan();
        dueAll(check, "no plan to be found", x, new int[4][3]);
        wrongInputs(check);
        check.end();
    }

    private static void dueAll(Check check, String when, BayStowage x, int[][] want) {
        for (int port = 0; port < want.length; port++) {
            for (int what = 0; what < 3; what++) {
                check.due("report(" + port + ", " + what + ") of " + when, want[port][what], x.report(port, what));
            }
        }
    }

    private static void wrongInputs(Check check) {
        BayStowage x = Voyages.twoStacks();
        for (int bad : new int[] {-1, 3, 4, Integer.MIN_VALUE, Integer.MAX_VALUE}) {
            check.badArgument("report(" + bad + ", 0)", () -> x.report(bad, 0));
            check.badArgument("report(0, " + bad + ")", () -> x.report(0, bad));
            check.badArgument("report(" + bad + ", " + bad + ")", () -> x.report(bad, bad));
        }
        check.badArgument("report(2, 3)", () -> x.report(2, 3));
    }
}
