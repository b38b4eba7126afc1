/** Counts and prints every call whose answer is not the one that is due. */
final class Check {
    private final String promise;
    private int made;
    private int wrong;

    Check(String promise) {
        this.promise = promise;
    }

    void due(String call, long want, long got) {
        made++;
        if (got != want) {
            wrong++;
            System.out.println(promise + ": " + call + " answered " + got + ", due is " + want);
        }
    }

    void isTrue(String claim, boolean holds) {
        due(claim, 1, holds ? 1 : 0);
    }

    void fits(String call, Runnable run) {
        dueThrow(call, null, run);
    }

    void badArgument(String call, Runnable run) {
        dueThrow(call, IllegalArgumentException.class, run);
    }

    void badState(String call, Runnable run) {
        dueThrow(call, IllegalStateException.class, run);
    }

    void badIndex(String call, Runnable run) {
        dueThrow(call, IndexOutOfBoundsException.class, run);
    }

    /** A plan is kept with its moves and what the crane has: no call that throws may touch them. */
    void untouched(String call, BayStowage x, Runnable run) {
        String before = stateOf(x);
        try {
            run.run();
            isTrue(call + " throws", false);
        } catch (RuntimeException e) {
            isTrue(call + " changes nothing: " + before + " became " + stateOf(x), before.equals(stateOf(x)));
        }
    }

    void noPlan(String when, BayStowage x) {
        due("moves() " + when, 0, x.moves());
        badState("verify() " + when, x::verify);
        badIndex("move(0, 0) " + when, () -> x.move(0, 0));
        emptyCrane(when, x);
    }

    void emptyCrane(String when, BayStowage x) {
        for (int what = 0; what <= 4; what++) {
            due("moment(" + what + ") " + when, 0, x.moment(what));
        }
        due("slot(0, 0) " + when, BayStowage.NONE, x.slot(0, 0));
    }

    void end() {
        System.out.println(promise + ": " + made + " checks, " + wrong + " wrong");
        if (wrong != 0) {
            System.exit(1);
        }
    }

    /** Moves as text, "box@port from>onto", the quay as a dot. */
    static String movesOf(BayStowage x) {
        StringBuilder text = new StringBuilder();
        for (int i = 0; i < x.moves(); i++) {
            text.append(i == 0 ? "" : ", ").append(x.move(i, 0)).append('@').append(x.move(i, 1)).append(' ')
                    .append(place(x.move(i, 2))).append('>').append(place(x.move(i, 3)));
        }
        return text.toString();
    }

    void dueMoves(String when, BayStowage x, String want) {
        String got = movesOf(x);
        isTrue("moves " + when + " are [" + got + "], due are [" + want + "]", got.equals(want));
    }

    private static String place(int stack) {
        return stack == BayStowage.NONE ? "." : String.valueOf(stack);
    }

    private static String stateOf(BayStowage x) {
        StringBuilder text = new StringBuilder(movesOf(x));
        for (int what = 0; what <= 5; what++) {
            text.append(' ').append(x.moment(what));
        }
        for (int stack = 0; stack < 3; stack++) {
            for (int tier = 0; tier < 3; tier++) {
                text.append(' ').append(slotOrGap(x, stack, tier));
            }
        }
        try {
            return text.append(" verify ").append(x.verify()).toString();
        } catch (IllegalStateException e) {
            return text.append(" no plan").toString();
        }
    }

    private static String slotOrGap(BayStowage x, int stack, int tier) {
        try {
            return String.valueOf(x.slot(stack, tier));
        } catch (IllegalArgumentException e) {
            return "x";
        }
    }

    private void dueThrow(String call, Class<? extends RuntimeException> want, Runnable run) {
        made++;
        Class<?> got = null;
        try {
            run.run();
        } catch (RuntimeException e) {
            got = e.getClass();
        }
        if (got != want) {
            wrong++;
            System.out.println(promise + ": " + call + " throws " + got + ", due is " + want);
        }
    }
}
