public final class P08MoveTest {
    public static void main(String[] args) {
        Check check = new Check("promise 8");
        answers(check);
        order(check);
        wrongInputs(check);
        check.end();
    }

    private static void answers(Check check) {
        int[][] due = {
            {0, 0, -1, 0}, {1, 0, -1, 0}, {2, 1, -1, 0}, {2, 2, 0, -1},
            {1, 2, 0, -1}, {2, 2, -1, 0}, {2, 3, 0, -1}, {0, 3, 0, -1},
        };
        BayStowage x = Voyages.oneStack();
        for (int i = 0; i < due.length; i++) {
            for (int what = 0; what <= 3; what++) {
                check.due("move(" + i + ", " + what + ")", due[i][what], x.move(i, what));
            }
        }
        check.dueMoves("of two stacks", Voyages.twoStacks(), Voyages.TWO_STACKS_MOVES);
    }

    /** At a port all that is taken off, from stack 0 and the top on, goes before all that is put on. */
    private static void order(Check check) {
        BayStowage x = new BayStowage();
        x.bay(2, 2, 3, 20, 2000, 0);
        for (int box = 0; box < 4; box++) {
            x.box(0, 1, 10, 0);
        }
        x.plan();
        check.dueMoves("from stack 0 on", x,
                "0@0 .>0, 1@0 .>0, 2@0 .>1, 3@0 .>1, 1@1 0>., 0@1 0>., 3@1 1>., 2@1 1>.");
        x.bay(2, 1, 3, 20, 2000, 2000);
        x.box(0, 1, 10, 0);
        x.box(1, 2, 10, 0);
        x.box(0, 1, 10, 0);
        x.box(1, 2, 10, 0);
        x.plan();
        check.dueMoves("off before on", x,
                "0@0 .>0, 2@0 .>1, 0@1 0>., 2@1 1>., 1@1 .>0, 3@1 .>1, 1@2 0>., 3@2 1>.");
    }

    private static void wrongInputs(Check check) {
        BayStowage x = Voyages.oneStack();
        for (int i : new int[] {-1, 8, 9, Integer.MIN_VALUE, Integer.MAX_VALUE}) {
            check.badIndex("move(" + i + ", 0)", () -> x.move(i, 0));
            check.badIndex("move(" + i + ", 4): the index goes first", () -> x.move(i, 4));
            check.badIndex("move(" + i + ", -1): the index goes first", () -> x.move(i, -1));
        }
        for (int what : new int[] {-1, 4, Integer.MIN_VALUE, Integer.MAX_VALUE}) {
            check.badArgument("move(0, " + what + ")", () -> x.move(0, what));
            check.badArgument("move(7, " + what + ")", () -> x.move(7, what));
        }
        check.badIndex("move(0, 0) of a new object", () -> new BayStowage().move(0, 0));
    }
}
