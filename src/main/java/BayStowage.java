import java.util.Arrays;

/** A planner for one bay of a ship along a voyage, and a crane that checks every move. */
public final class BayStowage {
    /** There is none; the quay. */
    public static final int NONE = -1;

    private static final int MOST_STACKS = 3;
    private static final int MOST_TIERS = 3;
    private static final int LEAST_PORTS = 2;
    private static final int MOST_PORTS = 4;
    private static final int MOST_DEPARTURES = MOST_PORTS - 1;
    private static final int MOST_BOXES = 5;
    private static final int MOST_STACK_TONNES = 200;
    private static final int MOST_MOMENT = 2000;
    private static final int MOST_BOX_TONNES = 40;

    private static final int DRY = 0;
    private static final int COLD = 1;
    private static final int DANGER = 2;
    private static final int OTHER_DANGER = 3;

    private final Ship ship;
    private final Hold crane;
    private final Hold trial;
    private final Script script;
    private final Planner planner;
    private boolean planned;

    public BayStowage() {
        Ship fitted = new Ship();
        fitted.refit(2, 2, 3, 100, 1000, 1000);
        ship = fitted;
        crane = new Hold(fitted);
        trial = new Hold(fitted);
        script = new Script();
        planner = new Planner(fitted);
    }

    public void bay(int stacks, int tiers, int ports, int tonnes, int vertical, int list)
            throws IllegalArgumentException {
        require(within(stacks, 1, MOST_STACKS));
        require(within(tiers, 1, MOST_TIERS));
        require(within(ports, LEAST_PORTS, MOST_PORTS));
        require(within(tonnes, 1, MOST_STACK_TONNES));
        require(within(vertical, 0, MOST_MOMENT));
        require(within(list, 0, MOST_MOMENT));
        ship.refit(stacks, tiers, ports, tonnes, vertical, list);
        dropPlan();
    }

    public void plug(int stack, boolean on) throws IllegalArgumentException {
        require(ship.hasStack(stack));
        ship.plugged[stack] = on;
        dropPlan();
    }

    public int box(int from, int to, int tonnes, int kind)
            throws IllegalArgumentException, IllegalStateException {
        require(ship.hasPort(from) && ship.hasPort(to) && from < to);
        require(within(tonnes, 1, MOST_BOX_TONNES));
        require(within(kind, DRY, OTHER_DANGER));
        if (ship.booked >= MOST_BOXES) {
            throw new IllegalStateException();
        }
        int number = ship.book(from, to, tonnes, kind);
        dropPlan();
        return number;
    }

    public void roll(int box) throws IllegalArgumentException {
        require(ship.hasBox(box));
        ship.rolled[box] = true;
        dropPlan();
    }

    public int plan() {
        dropPlan();
        int shifts = planner.listAll() ? planner.chooseAll() : NONE;
        if (shifts != NONE) {
            planner.writeInto(script);
            planned = true;
        }
        return shifts;
    }

    public int moves() {
        return script.length;
    }

    public int move(int i, int what) throws IndexOutOfBoundsException, IllegalArgumentException {
        requireMove(i);
        switch (what) {
            case 0:
                return script.boxes[i];
            case 1:
                return script.ports[i];
            case 2:
                return script.takenFrom[i];
            case 3:
                return script.putOn[i];
            default:
                throw new IllegalArgumentException();
        }
    }

    public void hand(int i, int stack) throws IndexOutOfBoundsException, IllegalArgumentException {
        requireMove(i);
        // Also a stack that this bay hasn't may be told: the crane finds that out.
        require(within(stack, 0, MOST_STACKS - 1) && script.putsOn(i));
        script.putOn[i] = stack;
    }

    public int replay(int n) throws IllegalArgumentException {
        require(within(n, 0, script.length));
        crane.clear();
        int done = 0;
        while (done < n && crane.does(script, done)) {
            done++;
        }
        return done;
    }

    public int slot(int stack, int tier) throws IllegalArgumentException {
        require(ship.hasStack(stack) && within(tier, 0, ship.tiers - 1));
        return crane.boxAt(stack, tier);
    }

    public int moment(int what) throws IllegalArgumentException {
        switch (what) {
            case 0:
                return crane.vertical;
            case 1:
                return crane.signedList();
            case 2:
            case 3:
            case 4:
                return crane.weights[what - 2];
            case 5:
                return crane.isSound() ? 1 : 0;
            default:
                throw new IllegalArgumentException();
        }
    }

    public int verify() throws IllegalStateException {
        if (!planned) {
            throw new IllegalStateException();
        }
        trial.clear();
        int done = 0;
        for (int port = 0; port < ship.ports; port++) {
            for (; done < script.length && script.ports[done] == port; done++) {
                if (!trial.does(script, done)) {
                    return done + 1;
                }
            }
            if (port < ship.departures() && !trial.mayDepart(port)) {
                return Math.max(done, 1);
            }
        }
        return trial.aboard() == 0 ? 0 : script.length + 1;
    }

    public int report(int port, int what) throws IllegalArgumentException {
        require(ship.hasPort(port) && within(what, 0, 2));
        int count = 0;
        for (int i = 0; i < script.length; i++) {
            if (script.ports[i] == port && isReported(i, what)) {
                count++;
            }
        }
        return count;
    }

    private boolean isReported(int i, int what) {
        int box = script.boxes[i];
        int port = script.ports[i];
        switch (what) {
            case 0:
                return script.putsOn(i) && ship.from[box] == port;
            case 1:
                return !script.putsOn(i) && ship.to[box] == port;
            default:
                return script.putsOn(i) && ship.from[box] != port;
        }
    }

    private void dropPlan() {
        planned = false;
        script.clear();
        crane.clear();
    }

    private void requireMove(int i) {
        if (!script.has(i)) {
            throw new IndexOutOfBoundsException();
        }
    }

    private static void require(boolean allowed) {
        if (!allowed) {
            throw new IllegalArgumentException();
        }
    }

    private static boolean within(int value, int least, int most) {
        return least <= value && value <= most;
    }

    /** The bay's limits and plugs, and the boxes booked for the voyage. */
    private static final class Ship {
        private int stacks;
        private int tiers;
        private int ports;
        private int tonnes;
        private int vertical;
        private int list;
        private final boolean[] plugged = new boolean[MOST_STACKS];
        private int booked;
        private final int[] from = new int[MOST_BOXES];
        private final int[] to = new int[MOST_BOXES];
        private final int[] weight = new int[MOST_BOXES];
        private final int[] kind = new int[MOST_BOXES];
        private final boolean[] rolled = new boolean[MOST_BOXES];

        private void refit(int stacks, int tiers, int ports, int tonnes, int vertical, int list) {
            this.stacks = stacks;
            this.tiers = tiers;
            this.ports = ports;
            this.tonnes = tonnes;
            this.vertical = vertical;
            this.list = list;
            for (int stack = 0; stack < MOST_STACKS; stack++) {
                plugged[stack] = false;
            }
            booked = 0;
        }

        private int book(int from, int to, int weight, int kind) {
            int number = booked;
            this.from[number] = from;
            this.to[number] = to;
            this.weight[number] = weight;
            this.kind[number] = kind;
            rolled[number] = false;
            booked++;
            return number;
        }

        private boolean hasStack(int stack) {
            return within(stack, 0, stacks - 1);
        }

        private boolean hasPort(int port) {
            return within(port, 0, ports - 1);
        }

        private boolean hasBox(int box) {
            return within(box, 0, booked - 1) && !rolled[box];
        }

        private int departures() {
            return ports - 1;
        }

        /** The boxes, a bit each, that the ship must have when it departs from a port. */
        private int dueAt(int port) {
            int due = 0;
            for (int box = 0; box < booked; box++) {
                if (!rolled[box] && from[box] <= port && port < to[box]) {
                    due |= 1 << box;
                }
            }
            return due;
        }
    }

    /** A bay with boxes in it, which are put on and taken off at the top of its stacks. */
    private static final class Hold {
        private final Ship ship;
        private final int[] slots = new int[MOST_STACKS * MOST_TIERS];
        private final int[] heights = new int[MOST_STACKS];
        private final int[] weights = new int[MOST_STACKS];
        private int vertical;

        private Hold(Ship ship) {
            this.ship = ship;
            Arrays.fill(slots, NONE);
        }

        private void clear() {
            Arrays.fill(slots, NONE);
            Arrays.fill(heights, 0);
            Arrays.fill(weights, 0);
            vertical = 0;
        }

        private int boxAt(int stack, int tier) {
            return slots[stack * MOST_TIERS + tier];
        }

        private boolean hasRoom(int stack) {
            return ship.hasStack(stack) && heights[stack] < ship.tiers;
        }

        private void stow(int box, int stack) {
            slots[stack * MOST_TIERS + heights[stack]] = box;
            heights[stack]++;
            weights[stack] += ship.weight[box];
            vertical += ship.weight[box] * heights[stack];
        }

        private void unstow(int box, int stack) {
            vertical -= ship.weight[box] * heights[stack];
            weights[stack] -= ship.weight[box];
            heights[stack]--;
            slots[stack * MOST_TIERS + heights[stack]] = NONE;
        }

        /** Does a move and answers true, or leaves a bad one alone and answers false. */
        private boolean does(Script script, int i) {
            int box = script.boxes[i];
            return script.putsOn(i) ? loads(box, script.putOn[i]) : unloads(box, script.takenFrom[i]);
        }

        private boolean loads(int box, int stack) {
            if (!hasRoom(stack) || isAboard(box) || weights[stack] + ship.weight[box] > ship.tonnes) {
                return false;
            }
            stow(box, stack);
            return true;
        }

        private boolean unloads(int box, int stack) {
            if (!ship.hasStack(stack) || heights[stack] == 0 || boxAt(stack, heights[stack] - 1) != box) {
                return false;
            }
            unstow(box, stack);
            return true;
        }

        private boolean isAboard(int box) {
            return (aboard() >> box & 1) == 1;
        }

        /** The boxes in the bay, a bit each. */
        private int aboard() {
            int aboard = 0;
            for (int box : slots) {
                if (box != NONE) {
                    aboard |= 1 << box;
                }
            }
            return aboard;
        }

        private int signedList() {
            int list = 0;
            for (int stack = 0; stack < ship.stacks; stack++) {
                list += weights[stack] * (2 * stack + 1 - ship.stacks);
            }
            return list;
        }

        private boolean mayDepart(int port) {
            return aboard() == ship.dueAt(port) && isSound();
        }

        private boolean isSound() {
            if (vertical > ship.vertical || Math.abs(signedList()) > ship.list) {
                return false;
            }
            for (int stack = 0; stack < ship.stacks; stack++) {
                if (!isSoundStack(stack)) {
                    return false;
                }
            }
            return true;
        }

        private boolean isSoundStack(int stack) {
            boolean plugMissing = holds(stack, COLD) && !ship.plugged[stack];
            boolean dangersMeet = holds(stack, DANGER)
                    && (holds(stack - 1, OTHER_DANGER)
                    || holds(stack, OTHER_DANGER)
                    || holds(stack + 1, OTHER_DANGER));
            return weights[stack] <= ship.tonnes && !plugMissing && !dangersMeet;
        }

        /** A stack that there isn't holds nothing, so that the outer stacks need no case of their own. */
        private boolean holds(int stack, int kind) {
            if (stack < 0 || stack >= ship.stacks) {
                return false;
            }
            for (int tier = 0; tier < heights[stack]; tier++) {
                if (ship.kind[slots[stack * MOST_TIERS + tier]] == kind) {
                    return true;
                }
            }
            return false;
        }
    }

    /** The moves of a plan in their order. */
    private static final class Script {
        /** A box is taken off and put on at most once at each port, and only put on at its first. */
        private static final int MOST_MOVES = MOST_BOXES * 2 * MOST_DEPARTURES;

        private int length;
        private final int[] boxes = new int[MOST_MOVES];
        private final int[] ports = new int[MOST_MOVES];
        private final int[] takenFrom = new int[MOST_MOVES];
        private final int[] putOn = new int[MOST_MOVES];

        private void clear() {
            length = 0;
        }

        private void add(int box, int port, int from, int onto) {
            if (length < MOST_MOVES) {
                boxes[length] = box;
                ports[length] = port;
                takenFrom[length] = from;
                putOn[length] = onto;
                length++;
            }
        }

        private boolean has(int i) {
            return within(i, 0, length - 1);
        }

        private boolean putsOn(int i) {
            return putOn[i] != NONE;
        }
    }

    /** Arrangements as numbers: three bits a slot, the first slot highest, 0 for no box. */
    private static final class Code {
        private static final int EMPTY = 0;
        private static final int SLOT_BITS = 3;
        private static final int SLOT_MASK = 7;
        private static final int LAST_SLOT = MOST_STACKS * MOST_TIERS - 1;

        private static int of(Hold hold) {
            int code = EMPTY;
            for (int box : hold.slots) {
                code = code << SLOT_BITS | (box - NONE);
            }
            return code;
        }

        private static int boxIn(int code, int stack, int tier) {
            int slotsBehind = LAST_SLOT - stack * MOST_TIERS - tier;
            return (code >> (slotsBehind * SLOT_BITS) & SLOT_MASK) + NONE;
        }

        private static int heightOf(int code, int stack) {
            return keptIn(stack, code, code);
        }

        /** How many boxes stay in a stack: from the bottom on, those that are the same in both. */
        private static int keptIn(int stack, int before, int after) {
            for (int tier = 0; tier < MOST_TIERS; tier++) {
                int box = boxIn(before, stack, tier);
                if (box == NONE || box != boxIn(after, stack, tier)) {
                    return tier;
                }
            }
            return MOST_TIERS;
        }

        private static int kept(int before, int after) {
            int kept = 0;
            for (int stack = 0; stack < MOST_STACKS; stack++) {
                kept += keptIn(stack, before, after);
            }
            return kept;
        }
    }

    /** Finds the plan that counts, from the last departure back to the first. */
    private static final class Planner {
        /** Five boxes lie in 5! orders, split among the stacks in 12 ways; four in 4! and 12. */
        private static final int MOST_OF_FIVE = 1440;
        private static final int MOST_OF_FOUR = 288;
        /** Departures with all five boxes come in a row and so share a list. */
        private static final int MOST_LISTED = MOST_OF_FIVE + (MOST_DEPARTURES - 1) * MOST_OF_FOUR;
        private static final int MOST_SHIFTS = (MOST_DEPARTURES - 1) * MOST_BOXES;

        private final Ship ship;
        private final Hold draft;
        private final int[] codes = new int[MOST_LISTED];
        /** For each listed arrangement how many shifts behind its departure are known to be needed. */
        private final int[] leastBehind = new int[MOST_LISTED];
        private int listed;
        private final int[] start = new int[MOST_DEPARTURES];
        private final int[] end = new int[MOST_DEPARTURES];
        private final int[] chosen = new int[MOST_DEPARTURES];

        private Planner(Ship ship) {
            this.ship = ship;
            draft = new Hold(ship);
        }

        private void writeInto(Script script) {
            int before = Code.EMPTY;
            for (int port = 0; port < ship.ports; port++) {
                int after = port < ship.departures() ? chosen[port] : Code.EMPTY;
                writeTakenOff(script, port, before, after);
                writePutOn(script, port, before, after);
                before = after;
            }
        }

        private void writeTakenOff(Script script, int port, int before, int after) {
            for (int stack = 0; stack < ship.stacks; stack++) {
                int kept = Code.keptIn(stack, before, after);
                for (int tier = Code.heightOf(before, stack) - 1; tier >= kept; tier--) {
                    script.add(Code.boxIn(before, stack, tier), port, stack, NONE);
                }
            }
        }

        private void writePutOn(Script script, int port, int before, int after) {
            for (int stack = 0; stack < ship.stacks; stack++) {
                int height = Code.heightOf(after, stack);
                for (int tier = Code.keptIn(stack, before, after); tier < height; tier++) {
                    script.add(Code.boxIn(after, stack, tier), port, NONE, stack);
                }
            }
        }

        /** Lists the sound arrangements of each departure; whether each has one. */
        private boolean listAll() {
            listed = 0;
            for (int port = 0; port < ship.departures(); port++) {
                // Departures in a row with the same boxes share a list. They share what is known of the
                // shifts behind it too: one between them saves none, for its box could move later alone.
                if (port > 0 && sameBoxes(port - 1, port)) {
                    start[port] = start[port - 1];
                } else {
                    start[port] = listed;
                    draft.clear();
                    listFrom(0, ship.dueAt(port));
                }
                end[port] = listed;
                if (start[port] == end[port]) {
                    return false;
                }
            }
            return true;
        }

        /** Lists what the draft can become: with no box before with one, as arrangements are ordered so. */
        private void listFrom(int stack, int waiting) {
            listBehind(stack, waiting);
            if (draft.hasRoom(stack)) {
                for (int box = 0; box < MOST_BOXES; box++) {
                    if ((waiting >> box & 1) == 1) {
                        listWith(box, stack, waiting);
                    }
                }
            }
        }

        /** The same with no more boxes in a stack. */
        private void listBehind(int stack, int waiting) {
            if (stack + 1 < ship.stacks) {
                listFrom(stack + 1, waiting);
            } else if (waiting == 0 && listed < MOST_LISTED && draft.isSound()) {
                codes[listed] = Code.of(draft);
                listed++;
            }
        }

        /** The same with one box more in a stack. */
        private void listWith(int box, int stack, int waiting) {
            draft.stow(box, stack);
            listFrom(stack, waiting & ~(1 << box));
            draft.unstow(box, stack);
        }

        /** Chooses the plan that counts from what is listed: its shifts. */
        private int chooseAll() {
            Arrays.fill(leastBehind, 0);
            for (int shifts = 0; shifts <= MOST_SHIFTS; shifts++) {
                if (chooses(0, Code.EMPTY, shifts)) {
                    return shifts;
                }
            }
            return NONE;
        }

        /** Chooses for a departure, and for those behind it, the first ones that the shifts left allow. */
        private boolean chooses(int port, int before, int left) {
            int staying = port == 0 ? 0 : staying(port - 1);
            for (int a = start[port]; a < end[port]; a++) {
                int rest = left - staying + Code.kept(before, codes[a]);
                if (leastBehind[a] <= rest && goesOn(port, a, rest)) {
                    chosen[port] = codes[a];
                    return true;
                }
            }
            return false;
        }

        private boolean goesOn(int port, int a, int left) {
            if (port + 1 >= ship.departures() || chooses(port + 1, codes[a], left)) {
                return true;
            }
            leastBehind[a] = left + 1;
            return false;
        }

        private boolean sameBoxes(int port, int other) {
            return ship.dueAt(port) == ship.dueAt(other);
        }

        /** How many boxes are aboard at the departure from a port and at the next one. */
        private int staying(int port) {
            return Integer.bitCount(ship.dueAt(port) & ship.dueAt(port + 1));
        }
    }
}
