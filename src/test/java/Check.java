import java.util.function.Consumer;
import java.util.function.Supplier;

/** Counts and prints every call whose answer is not the one that is due. */
final class Check {
    private final String promise;
    private int made;
    private int wrong;

    Check(String promise) {
        this.promise = promise;
    }

    void due(String call, long want, long got) {
        isTrue(call + " answered " + got + ", due is " + want, got == want);
    }

    void isTrue(String claim, boolean holds) {
        made++;
        if (!holds) {
            wrong++;
            System.out.println(promise + ": " + claim);
        }
    }

    void fits(String call, Runnable run) {
        dueThrow(call, null, run);
    }

    void badArgument(String call, Runnable run) {
        dueThrow(call, IllegalArgumentException.class, run);
    }

    void badState(String call, Runnable run) {
        dueThrow(call, IllegalStateException.class, run);
    }

    void badIndex(String call, Runnable run) {
        dueThrow(call, IndexOutOfBoundsException.class, run);
    }

    void refusedArgument(String call, Supplier<BayStowage> scene, Consumer<BayStowage> run) {
        refused(call, IllegalArgumentException.class, scene, run);
    }

    void refusedState(String call, Supplier<BayStowage> scene, Consumer<BayStowage> run) {
        refused(call, IllegalStateException.class, scene, run);
    }

    void refusedIndex(String call, Supplier<BayStowage> scene, Consumer<BayStowage> run) {
        refused(call, IndexOutOfBoundsException.class, scene, run);
    }

    /** The call throws, and what the object answers from then on is what one answers that had no such call. */
    private void refused(String call, Class<? extends RuntimeException> want,
            Supplier<BayStowage> scene, Consumer<BayStowage> run) {
        BayStowage x = scene.get();
        dueThrow(call, want, () -> run.accept(x));
        String got = Probe.all(x);
        String due = Probe.all(scene.get());
        isTrue(call + " changes nothing: due is\n" + due + "\n, but there is\n" + got, got.equals(due));
    }

    void noPlan(String when, BayStowage x) {
        due("moves() " + when, 0, x.moves());
        badState("verify() " + when, x::verify);
        badIndex("move(0, 0) " + when, () -> x.move(0, 0));
        badIndex("hand(0, 0) " + when, () -> x.hand(0, 0));
        badArgument("replay(1) " + when, () -> x.replay(1));
        emptyCrane(when, x);
    }

    /** Stack 0 and tier 0 are in every bay; the weights tell of the others. */
    void emptyCrane(String when, BayStowage x) {
        for (int what = 0; what <= 4; what++) {
            due("moment(" + what + ") " + when, 0, x.moment(what));
        }
        due("slot(0, 0) " + when, BayStowage.NONE, x.slot(0, 0));
        due("moment(5) " + when, 1, x.moment(5));
    }

    void end() {
        System.out.println(promise + ": " + made + " checks, " + wrong + " wrong");
        if (wrong != 0) {
            System.exit(1);
        }
    }

    /** Moves as text, "box@port from>onto", the quay as a dot. */
    static String movesOf(BayStowage x) {
        StringBuilder text = new StringBuilder();
        for (int i = 0; i < x.moves(); i++) {
            text.append(i == 0 ? "" : ", ").append(x.move(i, 0)).append('@').append(x.move(i, 1)).append(' ')
                    .append(place(x.move(i, 2))).append('>').append(place(x.move(i, 3)));
        }
        return text.toString();
    }

    void dueMoves(String when, BayStowage x, String want) {
        String got = movesOf(x);
        isTrue("moves " + when + " are [" + got + "], due are [" + want + "]", got.equals(want));
    }

    private static String place(int stack) {
        return stack == BayStowage.NONE ? "." : String.valueOf(stack);
    }

    private void dueThrow(String call, Class<? extends RuntimeException> want, Runnable run) {
        Class<?> got = null;
        try {
            run.run();
        } catch (RuntimeException e) {
            got = e.getClass();
        }
        isTrue(call + " throws " + got + ", due is " + want, got == want);
    }
}
