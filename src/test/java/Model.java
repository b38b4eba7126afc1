import java.util.ArrayDeque;
import java.util.ArrayList;
import java.util.Collections;
import java.util.Deque;
import java.util.List;

/**
 * The document told a second time, with lists and without any thrift, to compare the class with.
 * An arrangement is a list of stacks, each a list of boxes from the bottom on. Plans grow from the
 * first departure on, and for each arrangement of a departure the best plan up to it is kept.
 */
final class Model {
    private record Box(int from, int to, int tonnes, int kind) {
    }

    private record Move(int box, int port, int off, int on) {
    }

    private record Plan(int shifts, List<List<List<Integer>>> arrangements) {
    }

    private int stacks = 2;
    private int tiers = 2;
    private int ports = 3;
    private int most = 100;
    private int mostVertical = 1000;
    private int mostList = 1000;
    private boolean[] plugs = new boolean[2];
    private final List<Box> boxes = new ArrayList<>();
    private final List<Integer> rolled = new ArrayList<>();
    private List<Move> moves;
    private List<Deque<Integer>> crane = emptyBay();

    void bay(int stacks, int tiers, int ports, int tonnes, int vertical, int list) {
        argument(stacks >= 1 && stacks <= 3 && tiers >= 1 && tiers <= 3 && ports >= 2 && ports <= 4);
        argument(tonnes >= 1 && tonnes <= 200 && vertical >= 0 && vertical <= 2000 && list >= 0 && list <= 2000);
        this.stacks = stacks;
        this.tiers = tiers;
        this.ports = ports;
        most = tonnes;
        mostVertical = vertical;
        mostList = list;
        plugs = new boolean[stacks];
        boxes.clear();
        rolled.clear();
        drop();
    }

    void plug(int stack, boolean on) {
        argument(stack >= 0 && stack < stacks);
        plugs[stack] = on;
        drop();
    }

    int box(int from, int to, int tonnes, int kind) {
        argument(from >= 0 && to > from && to < ports && tonnes >= 1 && tonnes <= 40 && kind >= 0 && kind <= 3);
        if (boxes.size() == 5) {
            throw new IllegalStateException();
        }
        boxes.add(new Box(from, to, tonnes, kind));
        drop();
        return boxes.size() - 1;
    }

    void roll(int box) {
        argument(box >= 0 && box < boxes.size() && !rolled.contains(box));
        rolled.add(box);
        drop();
    }

    int plan() {
        drop();
        Plan best = bestPlan();
        if (best == null) {
            return -1;
        }
        moves = movesOf(best);
        return best.shifts;
    }

    int moves() {
        return moves == null ? 0 : moves.size();
    }

    int move(int i, int what) {
        index(i);
        argument(what >= 0 && what <= 3);
        Move m = moves.get(i);
        return new int[] {m.box, m.port, m.off, m.on}[what];
    }

    void hand(int i, int stack) {
        index(i);
        Move m = moves.get(i);
        argument(stack >= 0 && stack <= 2 && m.off == -1);
        moves.set(i, new Move(m.box, m.port, -1, stack));
    }

    int replay(int n) {
        argument(n >= 0 && n <= moves());
        crane = emptyBay();
        for (int i = 0; i < n; i++) {
            if (!did(crane, moves.get(i))) {
                return i;
            }
        }
        return n;
    }

    int slot(int stack, int tier) {
        argument(stack >= 0 && stack < stacks && tier >= 0 && tier < tiers);
        List<Integer> there = new ArrayList<>(crane.get(stack));
        return tier < there.size() ? there.get(tier) : -1;
    }

    int moment(int what) {
        argument(what >= 0 && what <= 5);
        List<List<Integer>> a = listed(crane);
        switch (what) {
            case 0:
                return vertical(a);
            case 1:
                return list(a);
            case 5:
                return sound(a) ? 1 : 0;
            default:
                return what - 2 < stacks ? weight(a.get(what - 2)) : 0;
        }
    }

    int verify() {
        if (moves == null) {
            throw new IllegalStateException();
        }
        List<Deque<Integer>> own = emptyBay();
        for (int port = 0; port < ports; port++) {
            int ahead = 0;
            for (int i = 0; i < moves.size(); i++) {
                Move m = moves.get(i);
                ahead += m.port <= port ? 1 : 0;
                if (m.port == port && !did(own, m)) {
                    return i + 1;
                }
            }
            List<Integer> aboard = new ArrayList<>();
            own.forEach(aboard::addAll);
            Collections.sort(aboard);
            if (port < ports - 1 && !(sound(listed(own)) && aboard.equals(due(port)))) {
                return Math.max(1, ahead);
            }
            if (port == ports - 1 && !aboard.isEmpty()) {
                return moves.size() + 1;
            }
        }
        return 0;
    }

    int report(int port, int what) {
        argument(port >= 0 && port < ports && what >= 0 && what <= 2);
        int[] counts = new int[3];
        for (Move m : moves == null ? List.<Move>of() : moves) {
            if (m.port == port && m.on != -1) {
                counts[boxes.get(m.box).from == port ? 0 : 2]++;
            } else if (m.port == port && boxes.get(m.box).to == port) {
                counts[1]++;
            }
        }
        return counts[what];
    }

    private static void argument(boolean good) {
        if (!good) {
            throw new IllegalArgumentException();
        }
    }

    private void index(int i) {
        if (i < 0 || i >= moves()) {
            throw new IndexOutOfBoundsException();
        }
    }

    private void drop() {
        moves = null;
        crane = emptyBay();
    }

    private List<Deque<Integer>> emptyBay() {
        List<Deque<Integer>> bay = new ArrayList<>();
        for (int stack = 0; stack < stacks; stack++) {
            bay.add(new ArrayDeque<>());
        }
        return bay;
    }

    private static List<List<Integer>> listed(List<Deque<Integer>> bay) {
        List<List<Integer>> a = new ArrayList<>();
        bay.forEach(stack -> a.add(new ArrayList<>(stack)));
        return a;
    }

    private boolean did(List<Deque<Integer>> bay, Move m) {
        if (m.off != -1) {
            Integer top = bay.get(m.off).peekLast();
            return top != null && top == m.box && bay.get(m.off).pollLast() != null;
        }
        if (m.on >= stacks || bay.get(m.on).size() == tiers || bay.stream().anyMatch(s -> s.contains(m.box))) {
            return false;
        }
        bay.get(m.on).addLast(m.box);
        if (weight(new ArrayList<>(bay.get(m.on))) > most) {
            bay.get(m.on).removeLast();
            return false;
        }
        return true;
    }

    private List<Integer> due(int port) {
        List<Integer> due = new ArrayList<>();
        for (int box = 0; box < boxes.size(); box++) {
            if (!rolled.contains(box) && boxes.get(box).from <= port && boxes.get(box).to > port) {
                due.add(box);
            }
        }
        return due;
    }

    private int weight(List<Integer> stack) {
        return stack.stream().mapToInt(box -> boxes.get(box).tonnes).sum();
    }

    private int vertical(List<List<Integer>> a) {
        int sum = 0;
        for (List<Integer> stack : a) {
            for (int tier = 0; tier < stack.size(); tier++) {
                sum += boxes.get(stack.get(tier)).tonnes * (tier + 1);
            }
        }
        return sum;
    }

    private int list(List<List<Integer>> a) {
        int sum = 0;
        for (int stack = 0; stack < stacks; stack++) {
            sum += weight(a.get(stack)) * (2 * stack + 1 - stacks);
        }
        return sum;
    }

    private boolean sound(List<List<Integer>> a) {
        boolean sound = vertical(a) <= mostVertical && Math.abs(list(a)) <= mostList;
        for (int i = 0; i < stacks; i++) {
            sound &= weight(a.get(i)) <= most;
            for (int box : a.get(i)) {
                sound &= boxes.get(box).kind != 1 || plugs[i];
                for (int j = 0; j < stacks; j++) {
                    for (int other : a.get(j)) {
                        sound &= Math.abs(i - j) > 1 || boxes.get(box).kind * boxes.get(other).kind != 6;
                    }
                }
            }
        }
        return sound;
    }

    /** Box after box goes to every place in every stack, so each arrangement comes once. */
    private List<List<List<Integer>>> arrangements(List<Integer> due) {
        List<List<List<Integer>>> all = new ArrayList<>();
        all.add(listed(emptyBay()));
        for (int box : due) {
            List<List<List<Integer>>> more = new ArrayList<>();
            for (List<List<Integer>> a : all) {
                for (int stack = 0; stack < stacks; stack++) {
                    for (int tier = 0; tier <= a.get(stack).size(); tier++) {
                        List<List<Integer>> b = new ArrayList<>();
                        a.forEach(s -> b.add(new ArrayList<>(s)));
                        b.get(stack).add(tier, box);
                        more.add(b);
                    }
                }
            }
            all = more;
        }
        all.removeIf(a -> a.stream().anyMatch(stack -> stack.size() > tiers) || !sound(a));
        return all;
    }

    /** The order of the document: slot by slot, no box first, then the lesser number. */
    private int compare(List<List<Integer>> a, List<List<Integer>> b) {
        for (int stack = 0; stack < stacks; stack++) {
            for (int tier = 0; tier < tiers; tier++) {
                int x = tier < a.get(stack).size() ? a.get(stack).get(tier) : -1;
                int y = tier < b.get(stack).size() ? b.get(stack).get(tier) : -1;
                if (x != y) {
                    return Integer.compare(x, y);
                }
            }
        }
        return 0;
    }

    private static int kept(List<Integer> before, List<Integer> after) {
        int kept = 0;
        while (kept < before.size() && kept < after.size() && before.get(kept).equals(after.get(kept))) {
            kept++;
        }
        return kept;
    }

    private int shifts(int port, List<List<Integer>> before, List<List<Integer>> after) {
        List<Integer> staying = due(port);
        staying.retainAll(due(port - 1));
        int shifts = staying.size();
        for (int stack = 0; stack < stacks; stack++) {
            shifts -= kept(before.get(stack), after.get(stack));
        }
        return shifts;
    }

    private boolean better(Plan a, Plan b) {
        if (b == null || a.shifts != b.shifts) {
            return b == null || a.shifts < b.shifts;
        }
        for (int i = 0; i < a.arrangements.size(); i++) {
            int order = compare(a.arrangements.get(i), b.arrangements.get(i));
            if (order != 0) {
                return order < 0;
            }
        }
        return false;
    }

    private Plan bestPlan() {
        List<Plan> plans = new ArrayList<>();
        for (List<List<Integer>> a : arrangements(due(0))) {
            plans.add(new Plan(0, List.of(a)));
        }
        for (int port = 1; port < ports - 1; port++) {
            List<Plan> longer = new ArrayList<>();
            for (List<List<Integer>> a : arrangements(due(port))) {
                Plan best = null;
                for (Plan p : plans) {
                    int shifts = p.shifts + shifts(port, p.arrangements.get(port - 1), a);
                    List<List<List<Integer>>> row = new ArrayList<>(p.arrangements);
                    row.add(a);
                    Plan q = new Plan(shifts, row);
                    best = better(q, best) ? q : best;
                }
                if (best != null) {
                    longer.add(best);
                }
            }
            plans = longer;
        }
        Plan best = null;
        for (Plan p : plans) {
            best = better(p, best) ? p : best;
        }
        return best;
    }

    private List<Move> movesOf(Plan plan) {
        List<Move> row = new ArrayList<>();
        List<List<Integer>> before = listed(emptyBay());
        for (int port = 0; port < ports; port++) {
            List<List<Integer>> after = port < ports - 1 ? plan.arrangements.get(port) : listed(emptyBay());
            for (int stack = 0; stack < stacks; stack++) {
                List<Integer> gone = before.get(stack);
                for (int tier = gone.size() - 1; tier >= kept(gone, after.get(stack)); tier--) {
                    row.add(new Move(gone.get(tier), port, stack, -1));
                }
            }
            for (int stack = 0; stack < stacks; stack++) {
                List<Integer> come = after.get(stack);
                for (int tier = kept(before.get(stack), come); tier < come.size(); tier++) {
                    row.add(new Move(come.get(tier), port, -1, stack));
                }
            }
            before = after;
        }
        return row;
    }
}
