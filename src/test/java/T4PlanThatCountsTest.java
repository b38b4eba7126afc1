/** Terms: what is a shift, and which of several plans counts. */
public final class T4PlanThatCountsTest {
    public static void main(String[] args) {
        Check check = new Check("terms, the plan that counts");
        noShiftAtTheEnds(check);
        shiftOfWhatIsAbove(check);
        shiftAtEachPort(check);
        mostShifts(check);
        fewestBeforeFirst(check);
        noBoxBeforeABox(check);
        lesserNumberFirst(check);
        lowerSlotFirst(check);
        firstArrangementBeforeSecond(check);
        secondArrangement(check);
        thirdArrangement(check);
        check.end();
    }

    /** "from nothing to the first one, from the last one to nothing": put on and taken off, but no shift */
    private static void noShiftAtTheEnds(Check check) {
        BayStowage x = bayOf(1, 3, 2);
        boxes(x, 0, 1, 0, 1, 0, 1);
        check.due("plan() of two ports", 0, x.plan());
        x = bayOf(1, 3, 4);
        boxes(x, 0, 3, 0, 3, 0, 3);
        check.due("plan() of all aboard from the first port to the last", 0, x.plan());
        check.due("moves(): on and off", 6, x.moves());
    }

    /** "in each stack the boxes stay that are, from the bottom on, the same in both": not what is above another */
    private static void shiftOfWhatIsAbove(Check check) {
        int[] moments = {4, 4 + 2, 4 + 2 + 3};
        for (int above = 0; above <= 2; above++) {
            BayStowage x = new BayStowage();
            // The moment wants the heavy one at the bottom, though it leaves first.
            x.bay(1, 3, 3, 200, moments[above], 2000);
            x.box(0, 1, 4, 0);
            for (int box = 0; box < above; box++) {
                x.box(0, 2, 1, 0);
            }
            check.due("plan() with " + above + " above the one that leaves", above, x.plan());
        }
        BayStowage y = bayOf(1, 3, 3);
        boxes(y, 0, 2, 0, 1, 0, 2);
        check.due("plan() of what leaves at the top", 0, y.plan());
        check.dueMoves("with 1 at the top", y, "0@0 .>0, 2@0 .>0, 1@0 .>0, 1@1 0>., 2@2 0>., 0@2 0>.");
    }

    /** "one SHIFT for each of these", at each port anew */
    private static void shiftAtEachPort(Check check) {
        BayStowage x = new BayStowage();
        x.bay(1, 2, 4, 200, 16, 2000);
        x.box(0, 3, 3, 0);
        x.box(0, 1, 10, 0);
        x.box(1, 2, 10, 0);
        check.due("plan() of one that is always above", 2, x.plan());
        check.dueMoves("of one that is always above", x,
                "1@0 .>0, 0@0 .>0, 0@1 0>., 1@1 0>., 2@1 .>0, 0@1 .>0, 0@2 0>., 2@2 0>., 0@2 .>0, 0@3 0>.");
        check.due("report(1, 2)", 1, x.report(1, 2));
        check.due("report(2, 2)", 1, x.report(2, 2));
    }

    /** Four stay aboard from port 1 to 2, and four from there on: all of them move both times. */
    private static void mostShifts(Check check) {
        BayStowage x = Voyages.mostShifts();
        check.due("plan() of the most shifts", 8, x.plan());
        check.due("report(1, 2) of the most shifts", 4, x.report(1, 2));
        check.due("report(2, 2) of the most shifts", 4, x.report(2, 2));
        check.due("verify() of the most shifts", 0, x.verify());
    }

    /** "The plan that counts has the fewest shifts in all": even if another's first arrangement is first */
    private static void fewestBeforeFirst(Check check) {
        BayStowage x = bayOf(1, 2, 3);
        boxes(x, 0, 1, 0, 2);
        check.due("plan() of the greater number below", 0, x.plan());
        check.dueMoves("of the greater number below", x, "1@0 .>0, 0@0 .>0, 0@1 0>., 1@2 0>.");
        x = bayOf(2, 1, 3);
        x.plug(1, true);
        x.box(0, 2, 1, 0);
        x.box(1, 2, 1, 1);
        check.due("plan() of a box that leaves the plug free", 0, x.plan());
        check.dueMoves("of a box that leaves the plug free", x, "0@0 .>0, 1@1 .>1, 0@2 0>., 1@2 1>.");
    }

    /** "the one is first that has no box there" */
    private static void noBoxBeforeABox(Check check) {
        for (int stacks = 1; stacks <= 3; stacks++) {
            BayStowage x = bayOf(stacks, 2, 2);
            boxes(x, 0, 1);
            x.plan();
            check.due("move(0, 3) of one box: the last stack", stacks - 1, x.move(0, 3));
            boxes(x, 0, 1);
            x.plan();
            check.due("move(1, 3) of two boxes: the last stack", stacks - 1, x.move(1, 3));
        }
        BayStowage y = bayOf(2, 3, 2);
        y.plug(0, true);
        y.box(0, 1, 1, 1);
        y.box(0, 1, 1, 0);
        y.box(0, 1, 1, 0);
        y.plan();
        check.dueMoves("with none upon the cold one", y, "0@0 .>0, 1@0 .>1, 2@0 .>1, 0@1 0>., 2@1 1>., 1@1 1>.");
    }

    /** "or the one with the lesser number" */
    private static void lesserNumberFirst(Check check) {
        BayStowage x = bayOf(1, 3, 2);
        boxes(x, 0, 1, 0, 1, 0, 1);
        x.plan();
        check.dueMoves("from 0 on", x, "0@0 .>0, 1@0 .>0, 2@0 .>0, 2@1 0>., 1@1 0>., 0@1 0>.");
        x.roll(0);
        x.box(0, 1, 1, 0);
        x.plan();
        check.dueMoves("from 1 on", x, "1@0 .>0, 2@0 .>0, 3@0 .>0, 3@1 0>., 2@1 0>., 1@1 0>.");
    }

    /** "slot by slot (stack 0 from the bottom on, then stack 1, ..)" */
    private static void lowerSlotFirst(Check check) {
        BayStowage x = bayOf(2, 2, 2);
        boxes(x, 0, 1, 0, 1, 0, 1);
        x.plan();
        check.dueMoves("with 0 alone in stack 0", x, "0@0 .>0, 1@0 .>1, 2@0 .>1, 0@1 0>., 2@1 1>., 1@1 1>.");
        boxes(x, 0, 1);
        x.plan();
        check.dueMoves("of a full bay", x,
                "0@0 .>0, 1@0 .>0, 2@0 .>1, 3@0 .>1, 1@1 0>., 0@1 0>., 3@1 1>., 2@1 1>.");
    }

    /** "of several the one whose first arrangement is first": even if its second one is behind another's */
    private static void firstArrangementBeforeSecond(Check check) {
        BayStowage x = bayOf(2, 1, 3);
        boxes(x, 0, 2, 1, 2);
        check.due("plan() of one box and then two", 0, x.plan());
        check.dueMoves("with 0 in stack 1, though 0 and 1 were first", x, "0@0 .>1, 1@1 .>0, 1@2 0>., 0@2 1>.");
    }

    /** "of these the one whose second one is" */
    private static void secondArrangement(Check check) {
        // One shift is due at port 1 or at port 2: there, as 1 below 2 is ahead of 2 below 1.
        BayStowage x = bayOf(1, 3, 4);
        boxes(x, 0, 3, 0, 2, 1, 3);
        check.due("plan() of a shift at one of two ports", 1, x.plan());
        check.dueMoves("of a shift at the later port", x, Voyages.ONE_STACK_MOVES);
        x = bayOf(3, 1, 3);
        boxes(x, 1, 2, 1, 2);
        x.plan();
        check.dueMoves("when nothing departs at first", x, "0@1 .>1, 1@1 .>2, 0@2 1>., 1@2 2>.");
        x = bayOf(2, 2, 3);
        boxes(x, 0, 2, 1, 2, 1, 2);
        x.plan();
        check.dueMoves("of a second with two ways", x, "0@0 .>1, 1@1 .>0, 2@1 .>1, 1@2 0>., 2@2 1>., 0@2 1>.");
    }

    /** "and so on" */
    private static void thirdArrangement(Check check) {
        BayStowage x = bayOf(3, 1, 4);
        boxes(x, 0, 3, 2, 3);
        x.plan();
        check.dueMoves("with 1 beside 0 at the third departure", x, "0@0 .>2, 1@2 .>1, 1@3 1>., 0@3 2>.");
        x = bayOf(1, 3, 4);
        boxes(x, 2, 3, 2, 3);
        x.plan();
        check.dueMoves("with 0 below 1 at the third departure", x, "0@2 .>0, 1@2 .>0, 1@3 0>., 0@3 0>.");
    }

    private static BayStowage bayOf(int stacks, int tiers, int ports) {
        BayStowage x = new BayStowage();
        x.bay(stacks, tiers, ports, 200, 2000, 2000);
        return x;
    }

    /** Dry boxes of a tonne, told as from, to, from, to, .. */
    private static void boxes(BayStowage x, int... journeys) {
        for (int i = 0; i + 1 < journeys.length; i += 2) {
            x.box(journeys[i], journeys[i + 1], 1, 0);
        }
    }
}
