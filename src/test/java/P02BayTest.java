public final class P02BayTest {
    private static final int[] LEAST = {1, 1, 2, 1, 0, 0};
    private static final int[] MOST = {3, 3, 4, 200, 2000, 2000};
    private static final String[] NAMES = {"stacks", "tiers", "ports", "tonnes", "vertical", "list"};

    public static void main(String[] args) {
        Check check = new Check("promise 2");
        lastThatIsAllowed(check);
        firstThatIsNot(check);
        allAtOnce(check);
        withoutPlugs(check);
        withoutBoxes(check);
        withoutPlan(check);
        sizes(check);
        limits(check);
        check.end();
    }

    private static void lastThatIsAllowed(Check check) {
        for (int which = 0; which < 6; which++) {
            for (int value : new int[] {LEAST[which], MOST[which]}) {
                for (int[] others : new int[][] {LEAST, MOST}) {
                    int[] a = with(others, which, value);
                    BayStowage x = Voyages.twoStacksAtPort0();
                    check.fits("bay with " + value + " " + NAMES[which], () -> bay(x, a));
                    check.noPlan("after bay with " + value + " " + NAMES[which], x);
                }
            }
        }
    }

    private static void firstThatIsNot(Check check) {
        for (int which = 0; which < 6; which++) {
            int[] bad = {LEAST[which] - 1, MOST[which] + 1, Integer.MIN_VALUE, Integer.MAX_VALUE};
            for (int value : bad) {
                for (int[] others : new int[][] {LEAST, MOST}) {
                    int[] a = with(others, which, value);
                    String call = "bay with " + value + " " + NAMES[which];
                    check.refusedArgument(call, Voyages::oneStackAtPort2, x -> bay(x, a));
                    check.refusedArgument(call, Voyages::plugged, x -> bay(x, a));
                    check.refusedArgument(call, () -> Voyages.sideBySide(20, 2000, 2000), x -> bay(x, a));
                    check.refusedArgument(call, () -> Voyages.sideBySide(200, 40, 2000), x -> bay(x, a));
                    check.refusedArgument(call, () -> Voyages.sideBySide(200, 2000, 0), x -> bay(x, a));
                }
            }
        }
    }

    private static void allAtOnce(Check check) {
        check.refusedArgument("bay(0, 0, 1, 0, -1, -1)", Voyages::twoStacksAtPort0, x -> x.bay(0, 0, 1, 0, -1, -1));
        check.refusedArgument("bay(4, 4, 5, 201, 2001, 2001)", Voyages::twoStacksAtPort0,
                x -> x.bay(4, 4, 5, 201, 2001, 2001));
    }

    private static void withoutPlugs(Check check) {
        BayStowage x = new BayStowage();
        x.bay(3, 1, 2, 100, 1000, 1000);
        for (int stack = 0; stack < 3; stack++) {
            x.plug(stack, true);
        }
        x.box(0, 1, 1, 1);
        check.due("plan() with plugs", 0, x.plan());
        x.bay(3, 1, 2, 100, 1000, 1000);
        x.box(0, 1, 1, 1);
        check.due("plan(): a new bay has no plugs", BayStowage.NONE, x.plan());
    }

    private static void withoutBoxes(Check check) {
        BayStowage x = Voyages.fullBook();
        x.bay(1, 3, 4, 200, 2000, 2000);
        for (int box = 0; box < 5; box++) {
            int number = box;
            check.badArgument("roll(" + box + ") after bay", () -> x.roll(number));
        }
        check.due("plan() after bay", 0, x.plan());
        check.due("moves() after bay", 0, x.moves());
        for (int number = 0; number < 5; number++) {
            check.due("box after bay", number, x.box(0, 1, 1, 0));
        }
        check.badState("a sixth box after bay", () -> x.box(0, 1, 1, 0));
        for (int box = 0; box < 5; box++) {
            int number = box;
            check.fits("roll(" + box + "): a new bay's box isn't rolled", () -> x.roll(number));
        }
    }

    private static void withoutPlan(Check check) {
        BayStowage x = Voyages.twoStacksAtPort0();
        x.bay(2, 2, 3, 100, 1000, 1000);
        check.noPlan("after bay", x);
        x.plan();
        check.due("verify() of a plan of nothing", 0, x.verify());
        x.bay(2, 2, 3, 100, 1000, 1000);
        check.noPlan("after bay, of nothing", x);
    }

    private static void sizes(Check check) {
        BayStowage x = new BayStowage();
        for (int stacks = 1; stacks <= 3; stacks++) {
            for (int tiers = 1; tiers <= 3; tiers++) {
                int beyond = stacks;
                int above = tiers;
                String size = stacks + " stacks of " + tiers;
                x.bay(stacks, tiers, 2, 200, 2000, 2000);
                check.due("slot of the last of " + size, BayStowage.NONE, x.slot(stacks - 1, tiers - 1));
                check.badArgument("slot beyond " + size, () -> x.slot(beyond, 0));
                check.badArgument("slot above " + size, () -> x.slot(0, above));
                int slots = Math.min(stacks * tiers, 5);
                for (int box = 0; box < slots; box++) {
                    x.box(0, 1, 1, 0);
                }
                check.due("plan() of " + slots + " boxes in " + size, 0, x.plan());
                if (slots < 5) {
                    x.box(0, 1, 1, 0);
                    check.due("plan() of one too many for " + size, BayStowage.NONE, x.plan());
                }
            }
        }
    }

    /** Two cold boxes in the one stack with a plug: 60 tonnes, 90 the vertical moment and 60 the list. */
    private static void limits(Check check) {
        int[][] limits = {{60, 90, 60, 0}, {59, 90, 60, -1}, {60, 89, 60, -1}, {60, 90, 59, -1}};
        for (int[] limit : limits) {
            BayStowage x = new BayStowage();
            x.bay(2, 2, 2, limit[0], limit[1], limit[2]);
            x.plug(0, true);
            x.box(0, 1, 30, 1);
            x.box(0, 1, 30, 1);
            check.due("plan() within " + limit[0] + " tonnes, moments " + limit[1] + " and " + limit[2],
                    limit[3], x.plan());
        }
    }

    private static int[] with(int[] arguments, int which, int value) {
        int[] a = arguments.clone();
        a[which] = value;
        return a;
    }

    private static void bay(BayStowage x, int[] a) {
        x.bay(a[0], a[1], a[2], a[3], a[4], a[5]);
    }
}
