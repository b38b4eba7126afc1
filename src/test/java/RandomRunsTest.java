import java.util.Random;
import java.util.function.IntSupplier;

/** Long runs of calls, good and bad ones, on the class and on the model; each answer must be the same. */
public final class RandomRunsTest {
    private static final int RUNS = 400;
    private static final int CALLS = 512;

    private final Random random;
    private final Check check;
    private final StringBuilder told = new StringBuilder();
    private BayStowage x = new BayStowage();
    private Model model = new Model();
    private int stacks = 2;
    private int ports = 3;

    private RandomRunsTest(long seed, Check check) {
        random = new Random(seed);
        this.check = check;
    }

    public static void main(String[] args) {
        Check check = new Check("random runs");
        for (int seed = 0; seed < RUNS; seed++) {
            RandomRunsTest run = new RandomRunsTest(seed, check);
            for (int call = 0; call < CALLS; call++) {
                run.step();
            }
        }
        check.end();
    }

    private void step() {
        int dice = random.nextInt(100);
        if (dice < 2) {
            bay();
        } else if (dice < 8) {
            int stack = among(0, stacks - 1);
            boolean on = random.nextInt(3) > 0;
            compare("plug(" + stack + ", " + on + ")",
                    () -> done(() -> x.plug(stack, on)), () -> done(() -> model.plug(stack, on)));
        } else if (dice < 20) {
            box();
        } else if (dice < 22) {
            int box = among(0, 4);
            compare("roll(" + box + ")", () -> done(() -> x.roll(box)), () -> done(() -> model.roll(box)));
        } else if (dice < 34) {
            compare("plan()", x::plan, model::plan);
        } else if (dice < 50) {
            int i = among(0, Math.max(0, model.moves() - 1));
            int stack = among(0, random.nextBoolean() ? stacks - 1 : 2);
            compare("hand(" + i + ", " + stack + ")",
                    () -> done(() -> x.hand(i, stack)), () -> done(() -> model.hand(i, stack)));
        } else if (dice < 62) {
            int n = among(0, model.moves());
            compare("replay(" + n + ")", () -> x.replay(n), () -> model.replay(n));
        } else {
            look(dice);
        }
    }

    private void look(int dice) {
        if (dice < 65) {
            compare("moves()", x::moves, model::moves);
        } else if (dice < 73) {
            int i = among(0, Math.max(0, model.moves() - 1));
            int what = among(0, 3);
            compare("move(" + i + ", " + what + ")", () -> x.move(i, what), () -> model.move(i, what));
        } else if (dice < 79) {
            int stack = among(0, stacks - 1);
            int tier = among(0, 2);
            compare("slot(" + stack + ", " + tier + ")", () -> x.slot(stack, tier), () -> model.slot(stack, tier));
        } else if (dice < 86) {
            int what = among(0, 5);
            compare("moment(" + what + ")", () -> x.moment(what), () -> model.moment(what));
        } else if (dice < 94) {
            compare("verify()", x::verify, model::verify);
        } else {
            int port = among(0, ports - 1);
            int what = among(0, 2);
            compare("report(" + port + ", " + what + ")", () -> x.report(port, what), () -> model.report(port, what));
        }
    }

    /** Nine slots and five boxes are dear to the model, so wide and high bays are seldom. */
    private void bay() {
        int width = among(1, 3);
        int tiers = width == 3 && random.nextInt(8) > 0 ? among(1, 2) : among(1, 3);
        int length = random.nextInt(3) > 0 ? 4 : among(2, 4);
        int tonnes = random.nextBoolean() ? among(40, 200) : among(1, 80);
        int vertical = random.nextBoolean() ? among(1000, 2000) : among(0, 250);
        int list = random.nextBoolean() ? among(1000, 2000) : among(0, 60);
        String call = "bay(" + width + ", " + tiers + ", " + length
                + ", " + tonnes + ", " + vertical + ", " + list + ")";
        int answer = compare(call, () -> done(() -> x.bay(width, tiers, length, tonnes, vertical, list)),
                () -> done(() -> model.bay(width, tiers, length, tonnes, vertical, list)));
        if (answer == 0) {
            stacks = width;
            ports = length;
        }
    }

    private void box() {
        int from = among(0, random.nextInt(3) > 0 ? 1 : ports - 2);
        int to = among(random.nextInt(8) > 0 ? from + 1 : 0, ports - 1);
        int tonnes = random.nextBoolean() ? among(1, 40) : 5 * among(1, 4);
        int kind = random.nextInt(3) > 0 ? 0 : among(0, 3);
        compare("box(" + from + ", " + to + ", " + tonnes + ", " + kind + ")",
                () -> x.box(from, to, tonnes, kind), () -> model.box(from, to, tonnes, kind));
    }

    /** Mostly least .. most, now and then one beyond or far off. */
    private int among(int least, int most) {
        int dice = random.nextInt(60);
        if (dice == 0) {
            return least - 1;
        }
        if (dice == 1) {
            return most + 1;
        }
        if (dice == 2) {
            return random.nextInt();
        }
        return most <= least ? least : least + random.nextInt(most - least + 1);
    }

    private static int done(Runnable call) {
        call.run();
        return 0;
    }

    private int compare(String call, IntSupplier program, IntSupplier due) {
        told.append(call).append(' ');
        int want = answer(due);
        int got = answer(program);
        if (got != want) {
            System.out.println("the run: " + told);
        }
        check.due(call, want, got);
        return want;
    }

    private static int answer(IntSupplier call) {
        try {
            return call.getAsInt();
        } catch (IllegalArgumentException e) {
            return -1001;
        } catch (IllegalStateException e) {
            return -1002;
        } catch (IndexOutOfBoundsException e) {
            return -1003;
        }
    }
}
