public final class P04BoxTest {
    public static void main(String[] args) {
        Check check = new Check("promise 4");
        itsNumber(check);
        lastThatIsAllowed(check);
        firstThatIsNot(check);
        fiveWereBooked(check);
        argumentBeforeState(check);
        rolledOnesWereBooked(check);
        dropsThePlan(check);
        check.end();
    }

    private static void itsNumber(Check check) {
        BayStowage x = new BayStowage();
        for (int number = 0; number < 5; number++) {
            check.due("box(0, 1, 1, 0)", number, x.box(0, 1, 1, 0));
        }
    }

    private static void lastThatIsAllowed(Check check) {
        int[][] good = {
            {0, 1, 1, 0}, {0, 3, 1, 0}, {2, 3, 1, 0}, {1, 2, 1, 0},
            {0, 1, 40, 0}, {0, 1, 1, 1}, {0, 1, 1, 3}, {2, 3, 40, 3},
        };
        for (int[] a : good) {
            BayStowage x = new BayStowage();
            x.bay(1, 1, 4, 200, 2000, 2000);
            x.plug(0, true);
            check.due(call(a), 0, x.box(a[0], a[1], a[2], a[3]));
            check.due("plan() of " + call(a), 0, x.plan());
            check.dueMoves("of " + call(a), x, "0@" + a[0] + " .>0, 0@" + a[1] + " 0>.");
            x.replay(1);
            check.due("moment(0) of " + call(a), a[2], x.moment(0));
        }
    }

    private static void firstThatIsNot(Check check) {
        int[][] bad = {
            {-1, 1, 1, 0}, {-1, 0, 1, 0}, {0, 0, 1, 0}, {1, 1, 1, 0}, {2, 1, 1, 0}, {3, 3, 1, 0}, {3, 0, 1, 0},
            {0, 4, 1, 0}, {3, 4, 1, 0}, {4, 5, 1, 0}, {-2, -1, 1, 0}, {0, -1, 1, 0},
            {Integer.MIN_VALUE, 1, 1, 0}, {0, Integer.MAX_VALUE, 1, 0}, {0, Integer.MIN_VALUE, 1, 0},
            {Integer.MAX_VALUE, Integer.MIN_VALUE, 1, 0}, {Integer.MIN_VALUE, Integer.MAX_VALUE, 1, 0},
            {0, 1, 0, 0}, {0, 1, 41, 0}, {0, 1, -1, 0}, {0, 1, Integer.MIN_VALUE, 0}, {0, 1, Integer.MAX_VALUE, 0},
            {0, 1, 1, -1}, {0, 1, 1, 4}, {0, 1, 1, Integer.MIN_VALUE}, {0, 1, 1, Integer.MAX_VALUE},
        };
        for (int[] a : bad) {
            check.refusedArgument(call(a), Voyages::oneStackAtPort2, x -> x.box(a[0], a[1], a[2], a[3]));
            BayStowage y = Voyages.oneStack();
            check.badArgument(call(a), () -> y.box(a[0], a[1], a[2], a[3]));
            check.due("the number behind " + call(a), 3, y.box(0, 1, 1, 0));
        }
    }

    private static void fiveWereBooked(Check check) {
        BayStowage x = new BayStowage();
        for (int box = 0; box < 4; box++) {
            x.box(0, 1, 1, 0);
        }
        check.due("the fifth box", 4, x.box(0, 1, 1, 0));
        check.badState("the sixth box", () -> x.box(0, 1, 1, 0));
        check.badState("the sixth box again", () -> x.box(0, 2, 40, 3));
        check.refusedState("the sixth box", Voyages::fullBook, y -> y.box(0, 1, 1, 0));
    }

    /** "Of two exceptions the one that it names first is thrown." */
    private static void argumentBeforeState(Check check) {
        int[][] bad = {{1, 1, 1, 0}, {0, 4, 1, 0}, {-1, 1, 1, 0}, {0, 1, 0, 0}, {0, 1, 41, 0}, {0, 1, 1, -1},
            {0, 1, 1, 4}};
        for (int[] a : bad) {
            check.refusedArgument("the sixth as " + call(a), Voyages::fullBook,
                    x -> x.box(a[0], a[1], a[2], a[3]));
        }
    }

    private static void rolledOnesWereBooked(Check check) {
        BayStowage x = new BayStowage();
        for (int box = 0; box < 5; box++) {
            check.due("box: a number is not given again", box, x.box(0, 1, 1, 0));
            x.roll(box);
        }
        check.badState("a box when five were rolled", () -> x.box(0, 1, 1, 0));
        check.due("plan() of five rolled boxes", 0, x.plan());
        check.due("moves() of five rolled boxes", 0, x.moves());
    }

    private static void dropsThePlan(Check check) {
        BayStowage x = Voyages.twoStacksAtPort0();
        x.box(0, 1, 1, 0);
        check.noPlan("after box", x);
        check.due("plan() again", 0, x.plan());
        check.due("moves() with one box more", 8, x.moves());
    }

    private static String call(int[] a) {
        return "box(" + a[0] + ", " + a[1] + ", " + a[2] + ", " + a[3] + ")";
    }
}
