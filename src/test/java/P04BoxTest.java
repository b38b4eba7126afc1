public final class P04BoxTest {
    public static void main(String[] args) {
        Check check = new Check("promise 4");
        numbers(check);
        edges(check);
        wrongInputs(check);
        fullBook(check);
        dropsThePlan(check);
        check.end();
    }

    private static void numbers(Check check) {
        BayStowage x = new BayStowage();
        for (int number = 0; number < 5; number++) {
            check.due("box(0, 1, 1, 0)", number, x.box(0, 1, 1, 0));
        }
    }

    private static void edges(Check check) {
        BayStowage x = new BayStowage();
        x.bay(3, 3, 4, 200, 2000, 2000);
        check.due("box(0, 1, 1, 0)", 0, x.box(0, 1, 1, 0));
        check.due("box(2, 3, 40, 3)", 1, x.box(2, 3, 40, 3));
        check.due("box(0, 3, 40, 1)", 2, x.box(0, 3, 40, 1));
        check.due("box(1, 2, 1, 2)", 3, x.box(1, 2, 1, 2));
        BayStowage y = new BayStowage();
        y.bay(1, 1, 2, 40, 2000, 2000);
        y.box(0, 1, 40, 0);
        y.plan();
        y.replay(1);
        check.due("moment(0): its tonnes", 40, y.moment(0));
    }

    private static void wrongInputs(Check check) {
        int[][] bad = {
            {-1, 1, 1, 0}, {0, 0, 1, 0}, {1, 1, 1, 0}, {2, 1, 1, 0}, {0, 4, 1, 0}, {3, 4, 1, 0}, {4, 5, 1, 0},
            {-2, -1, 1, 0}, {Integer.MIN_VALUE, 1, 1, 0}, {0, Integer.MAX_VALUE, 1, 0}, {0, Integer.MIN_VALUE, 1, 0},
            {0, 1, 0, 0}, {0, 1, 41, 0}, {0, 1, -1, 0}, {0, 1, Integer.MIN_VALUE, 0}, {0, 1, Integer.MAX_VALUE, 0},
            {0, 1, 1, -1}, {0, 1, 1, 4}, {0, 1, 1, Integer.MIN_VALUE}, {0, 1, 1, Integer.MAX_VALUE},
        };
        for (int[] a : bad) {
            String call = "box(" + a[0] + ", " + a[1] + ", " + a[2] + ", " + a[3] + ")";
            BayStowage x = Voyages.oneStack();
            x.replay(5);
            check.badArgument(call, () -> x.box(a[0], a[1], a[2], a[3]));
            check.untouched(call, x, () -> x.box(a[0], a[1], a[2], a[3]));
            check.due("the number behind " + call, 3, x.box(0, 1, 1, 0));
        }
    }

    private static void fullBook(Check check) {
        BayStowage x = Voyages.oneStack();
        x.box(0, 1, 1, 0);
        x.box(0, 1, 1, 0);
        x.roll(3);
        x.roll(4);
        x.plan();
        x.replay(5);
        check.badState("a sixth box", () -> x.box(0, 1, 1, 0));
        check.untouched("a sixth box", x, () -> x.box(0, 1, 1, 0));
        check.badArgument("a sixth box of no tonnes", () -> x.box(0, 1, 0, 0));
        check.badArgument("a sixth box of no kind", () -> x.box(0, 1, 1, 4));
        check.badArgument("a sixth box to its own port", () -> x.box(1, 1, 1, 0));
        check.untouched("a sixth box of no tonnes", x, () -> x.box(0, 1, 0, 0));
    }

    private static void dropsThePlan(Check check) {
        BayStowage x = Voyages.twoStacks();
        x.replay(2);
        x.box(0, 1, 1, 0);
        check.noPlan("after box", x);
        check.due("plan() again", 0, x.plan());
        check.due("moves() with one box more", 8, x.moves());
    }
}
