public final class P11SlotTest {
    public static void main(String[] args) {
        Check check = new Check("promise 11");
        whatTheCraneHas(check);
        emptyBay(check);
        fullBay(check);
        noSuchSlot(check);
        check.end();
    }

    private static void whatTheCraneHas(Check check) {
        BayStowage x = Voyages.twoStacks();
        check.due("slot(1, 0) before replay", BayStowage.NONE, x.slot(1, 0));
        x.replay(2);
        check.due("slot(0, 0)", BayStowage.NONE, x.slot(0, 0));
        check.due("slot(0, 1)", BayStowage.NONE, x.slot(0, 1));
        check.due("slot(1, 0)", 0, x.slot(1, 0));
        check.due("slot(1, 1)", 1, x.slot(1, 1));
        x.verify();
        check.due("slot(1, 1): verify has a bay of its own", 1, x.slot(1, 1));
        x.replay(3);
        check.due("slot(1, 1) when 1 is off", BayStowage.NONE, x.slot(1, 1));
        x.replay(6);
        check.due("slot(1, 0) at the end", BayStowage.NONE, x.slot(1, 0));
    }

    private static void emptyBay(Check check) {
        for (int stacks = 1; stacks <= 3; stacks++) {
            for (int tiers = 1; tiers <= 3; tiers++) {
                BayStowage x = Voyages.alike(stacks, tiers, 1);
                for (int slot = 0; slot < stacks * tiers; slot++) {
                    check.due("slot of an empty bay", BayStowage.NONE, x.slot(slot / tiers, slot % tiers));
                }
            }
        }
    }

    private static void fullBay(Check check) {
        BayStowage x = Voyages.alike(2, 2, 4);
        x.replay(4);
        check.due("slot(0, 0) of a full bay", 0, x.slot(0, 0));
        check.due("slot(0, 1) of a full bay", 1, x.slot(0, 1));
        check.due("slot(1, 0) of a full bay", 2, x.slot(1, 0));
        check.due("slot(1, 1) of a full bay", 3, x.slot(1, 1));
        check.badArgument("slot(0, 2) of a full bay", () -> x.slot(0, 2));
        check.badArgument("slot(2, 0) of a full bay", () -> x.slot(2, 0));
        BayStowage y = Voyages.oneStack();
        y.replay(3);
        check.due("slot(0, 2): the top of a full stack of three", 2, y.slot(0, 2));
        check.badArgument("slot(0, 3) of a full stack", () -> y.slot(0, 3));
    }

    /** The first stack and tier beyond each size, on both sides, and both at once. */
    private static void noSuchSlot(Check check) {
        for (int stacks = 1; stacks <= 3; stacks++) {
            for (int tiers = 1; tiers <= 3; tiers++) {
                int wide = stacks;
                int high = tiers;
                int[][] bad = {{-1, 0}, {wide, 0}, {0, -1}, {0, high}, {wide - 1, high}, {wide, high - 1},
                    {wide, high}, {-1, -1}, {Integer.MIN_VALUE, 0}, {Integer.MAX_VALUE, 0},
                    {0, Integer.MIN_VALUE}, {0, Integer.MAX_VALUE}};
                for (int[] a : bad) {
                    String call = "slot(" + a[0] + ", " + a[1] + ") of " + wide + " stacks of " + high;
                    check.refusedArgument(call, () -> oneBox(wide, high), x -> x.slot(a[0], a[1]));
                }
            }
        }
    }

    private static BayStowage oneBox(int stacks, int tiers) {
        BayStowage x = Voyages.alike(stacks, tiers, 1);
        x.replay(1);
        return x;
    }
}
