import java.util.Random;

/** Tight voyages, many of which need shifts, planned by the class and by the model: the same moves are due. */
public final class RandomPlansTest {
    private static final int VOYAGES = 4000;

    private final Random random = new Random(1);
    private final Check check = new Check("random plans");
    private final BayStowage x = new BayStowage();
    private final Model model = new Model();
    private int shifted;

    public static void main(String[] args) {
        RandomPlansTest test = new RandomPlansTest();
        for (int voyage = 0; voyage < VOYAGES; voyage++) {
            test.compare(test.sail(voyage));
        }
        test.check.isTrue("many of the voyages need shifts: " + test.shifted, test.shifted * 20 > VOYAGES);
        test.check.end();
    }

    private String sail(int voyage) {
        boolean large = voyage % 40 == 0;
        int stacks = large ? 3 : among(1, 3);
        int tiers = large || stacks < 3 ? 3 : among(1, 2);
        int tonnes = among(30, 200);
        int vertical = random.nextBoolean() ? 2000 : among(50, 250);
        int list = random.nextInt(3) == 0 ? 2000 : among(0, 20);
        x.bay(stacks, tiers, 4, tonnes, vertical, list);
        model.bay(stacks, tiers, 4, tonnes, vertical, list);
        StringBuilder told = new StringBuilder(
                "bay(" + stacks + ", " + tiers + ", 4, " + tonnes + ", " + vertical + ", " + list + ")");
        for (int stack = 0; stack < stacks; stack++) {
            boolean on = random.nextInt(3) > 0;
            x.plug(stack, on);
            model.plug(stack, on);
            told.append(" plug(").append(stack).append(", ").append(on).append(')');
        }
        int boxes = large ? 5 : among(2, Math.min(5, stacks * tiers + 1));
        for (int box = 0; box < boxes; box++) {
            int from = among(0, 2) % 2;
            int to = among(from + 1, 3);
            int weight = random.nextBoolean() ? 5 * among(1, 3) : among(1, 40);
            int kind = random.nextInt(4) > 0 ? 0 : among(1, 3);
            x.box(from, to, weight, kind);
            model.box(from, to, weight, kind);
            told.append(" box(" + from + ", " + to + ", " + weight + ", " + kind + ")");
        }
        return told.toString();
    }

    private void compare(String voyage) {
        int want = model.plan();
        check.due("plan() of " + voyage, want, x.plan());
        check.due("moves() of " + voyage, model.moves(), x.moves());
        for (int i = 0; i < Math.min(x.moves(), model.moves()); i++) {
            for (int what = 0; what <= 3; what++) {
                check.due("move(" + i + ", " + what + ") of " + voyage, model.move(i, what), x.move(i, what));
            }
        }
        if (want != BayStowage.NONE) {
            check.due("verify() of " + voyage, 0, x.verify());
        }
        shifted += want > 0 ? 1 : 0;
    }

    private int among(int least, int most) {
        return least + random.nextInt(most - least + 1);
    }
}
