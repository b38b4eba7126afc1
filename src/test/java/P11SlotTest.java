public final class P11SlotTest {
    public static void main(String[] args) {
        Check check = new Check("promise 11");
        BayStowage x = Voyages.twoStacks();
        check.due("slot(1, 0) before replay", BayStowage.NONE, x.slot(1, 0));
        x.replay(2);
        check.due("slot(0, 0)", BayStowage.NONE, x.slot(0, 0));
        check.due("slot(0, 1)", BayStowage.NONE, x.slot(0, 1));
        check.due("slot(1, 0)", 0, x.slot(1, 0));
        check.due("slot(1, 1)", 1, x.slot(1, 1));
        x.verify();
        check.due("slot(1, 1): verify has a bay of its own", 1, x.slot(1, 1));
        x.replay(3);
        check.due("slot(1, 1) when 1 is off", BayStowage.NONE, x.slot(1, 1));
        x.replay(6);
        check.due("slot(1, 0) at the end", BayStowage.NONE, x.slot(1, 0));
        wrongInputs(check);
        check.end();
    }

    private static void wrongInputs(Check check) {
        BayStowage x = Voyages.twoStacks();
        int[][] bad = {{-1, 0}, {2, 0}, {0, -1}, {0, 2}, {1, 2}, {2, 2}, {3, 0}, {0, 3},
            {Integer.MIN_VALUE, 0}, {0, Integer.MAX_VALUE}, {Integer.MAX_VALUE, 0}, {0, Integer.MIN_VALUE}};
        for (int[] a : bad) {
            check.badArgument("slot(" + a[0] + ", " + a[1] + ")", () -> x.slot(a[0], a[1]));
        }
    }
}
