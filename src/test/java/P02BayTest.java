public final class P02BayTest {
    public static void main(String[] args) {
        Check check = new Check("promise 2");
        edges(check);
        wrongInputs(check);
        startsAnew(check);
        sizes(check);
        limits(check);
        check.end();
    }

    private static void edges(Check check) {
        BayStowage x = new BayStowage();
        check.fits("bay(1, 1, 2, 1, 0, 0)", () -> x.bay(1, 1, 2, 1, 0, 0));
        check.fits("bay(3, 3, 4, 200, 2000, 2000)", () -> x.bay(3, 3, 4, 200, 2000, 2000));
    }

    private static void wrongInputs(Check check) {
        int[] least = {1, 1, 2, 1, 0, 0};
        int[] most = {3, 3, 4, 200, 2000, 2000};
        for (int which = 0; which < 6; which++) {
            for (int value : new int[] {least[which] - 1, most[which] + 1, Integer.MIN_VALUE, Integer.MAX_VALUE}) {
                int[] a = least.clone();
                a[which] = value;
                String call = "bay with argument " + which + " = " + value;
                BayStowage x = Voyages.oneStack();
                x.replay(5);
                check.badArgument(call, () -> x.bay(a[0], a[1], a[2], a[3], a[4], a[5]));
                check.untouched(call, x, () -> x.bay(a[0], a[1], a[2], a[3], a[4], a[5]));
                check.badArgument("slot(1, 0): still one stack", () -> x.slot(1, 0));
            }
        }
    }

    private static void startsAnew(Check check) {
        BayStowage x = Voyages.twoStacks();
        x.replay(2);
        x.bay(2, 2, 3, 100, 1000, 1000);
        check.noPlan("after bay", x);
        check.badArgument("roll(0) after bay", () -> x.roll(0));
        check.due("plan() after bay", 0, x.plan());
        check.due("moves() after bay", 0, x.moves());
        check.due("box after bay", 0, x.box(0, 1, 1, 1));
        x.plug(0, true);
        check.due("plan() with a plug", 0, x.plan());
        x.bay(2, 2, 3, 100, 1000, 1000);
        x.box(0, 1, 1, 1);
        check.due("plan(): a new bay has no plugs", BayStowage.NONE, x.plan());
        x.bay(2, 2, 3, 100, 1000, 1000);
        x.box(0, 1, 1, 0);
        x.roll(0);
        x.bay(2, 2, 3, 100, 1000, 1000);
        x.box(0, 1, 1, 0);
        check.fits("roll(0) of a new bay's box", () -> x.roll(0));
    }

    private static void sizes(Check check) {
        BayStowage x = new BayStowage();
        for (int stacks = 1; stacks <= 3; stacks++) {
            for (int tiers = 1; tiers <= 3; tiers++) {
                int beyond = stacks;
                int above = tiers;
                x.bay(stacks, tiers, 2, 200, 2000, 2000);
                check.due("slot(" + (stacks - 1) + ", " + (tiers - 1) + ")", BayStowage.NONE,
                        x.slot(stacks - 1, tiers - 1));
                check.badArgument("slot(" + beyond + ", 0)", () -> x.slot(beyond, 0));
                check.badArgument("slot(0, " + above + ")", () -> x.slot(0, above));
                int slots = Math.min(stacks * tiers, 5);
                for (int box = 0; box < slots; box++) {
                    x.box(0, 1, 1, 0);
                }
                check.due("plan() of a full bay", 0, x.plan());
                if (slots < 5) {
                    x.box(0, 1, 1, 0);
                    check.due("plan() of one too many", BayStowage.NONE, x.plan());
                }
            }
        }
        for (int ports = 2; ports <= 4; ports++) {
            int beyond = ports;
            x.bay(1, 1, ports, 200, 2000, 2000);
            check.due("box to the last port", 0, x.box(0, ports - 1, 1, 0));
            check.badArgument("box beyond the last port", () -> x.box(0, beyond, 1, 0));
        }
    }

    private static void limits(Check check) {
        int[][] limits = {{60, 90, 60, 0}, {59, 90, 60, -1}, {60, 89, 60, -1}, {60, 90, 59, -1}};
        for (int[] limit : limits) {
            BayStowage x = new BayStowage();
            x.bay(2, 2, 2, limit[0], limit[1], limit[2]);
            x.plug(0, true);
            x.box(0, 1, 30, 1);
            x.box(0, 1, 30, 1);
            check.due("plan() within " + limit[0] + " tonnes, moments " + limit[1] + " and " + limit[2],
                    limit[3], x.plan());
        }
    }
}
