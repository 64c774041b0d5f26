import java.util.ArrayList;
import java.util.List;
import java.util.function.Consumer;

/**
 * All that can be found out about an object behind a run of calls, a line for each answer. Each group of questions
 * has a new object that the run is done on anew: so no question is disturbed by another one, and no object
 * comes near its 512th call.
 */
final class State {
    private static final int NONE = GoalOrder.NONE;

    private final Consumer<GoalOrder> run;
    private final String when;
    private final List<String> lines = new ArrayList<>();

    private State(Consumer<GoalOrder> run, String when) {
        this.run = run;
        this.when = when;
    }

    /** What is answered at once, what the next changes answer, and what an ordering comes to. */
    static List<String> behind(Consumer<GoalOrder> run) {
        State now = new State(run, "");
        now.askAll();
        now.tryChanges();
        State later = new State(run.andThen(GoalOrder::order), "behind order() ");
        now.line("order()", now.made().order());
        later.askAll();
        now.lines.addAll(later.lines);
        return now.lines;
    }

    private GoalOrder made() {
        GoalOrder g = new GoalOrder();
        run.accept(g);
        return g;
    }

    private void line(String call, int answer) {
        lines.add(when + call + " = " + answer);
    }

    private void line(String call, boolean answer) {
        lines.add(when + call + " = " + answer);
    }

    private void askAll() {
        line("stuck()", made().stuck());
        int nodes = countNodes();
        for (int node = -1; node <= nodes; node++) {
            askNode(node);
            askParts(node);
            askVariables(node);
        }
    }

    private int countNodes() {
        GoalOrder g = made();
        int nodes = 0;
        while (nodes < 251 && g.node(nodes, 0) != NONE) {
            nodes++;
        }
        return nodes;
    }

    private void askNode(int node) {
        GoalOrder g = made();
        for (int what = -2; what <= 10; what++) {
            line("node(" + node + ", " + what + ")", g.node(node, what));
        }
        for (int k = -1; k <= 7; k++) {
            line("compared(" + node + ", " + k + ")", g.compared(node, k));
        }
    }

    private void askParts(int node) {
        GoalOrder g = made();
        int parts = g.node(node, 1);
        for (int k = -1; k <= parts; k++) {
            line("part(" + node + ", " + k + ")", g.part(node, k));
        }
    }

    private void askVariables(int node) {
        GoalOrder g = made();
        for (int x = -1; x <= 60; x++) {
            line("ground(" + node + ", " + x + ")", g.ground(node, x));
            line("outer(" + node + ", " + x + ")", g.outer(node, x));
        }
    }

    private void tryChanges() {
        int predicates = made().predicate(0);
        line("predicate(0)", predicates);
        tryModes();
        for (int predicate = 0; predicate < (predicates == NONE ? 60 : predicates); predicate++) {
            tryPredicate(predicate);
        }
        tryRow();
        tryGiven();
        tryWanted();
    }

    private void tryModes() {
        GoalOrder g = made();
        for (int predicate = -1; predicate <= 60; predicate++) {
            line("mode(" + predicate + ", 0)", g.mode(predicate, 0));
        }
    }

    /** How many arguments it has, and which mode is taken, with each set of them given. */
    private void tryPredicate(int predicate) {
        GoalOrder g = made();
        g.clear();
        int arguments = NONE;
        for (int many = 0; many <= 6 && arguments == NONE; many++) {
            int[] row = new int[many];
            for (int k = 0; k < many; k++) {
                row[k] = k;
            }
            arguments = Sorts.call(g, 0, Sorts.CALL, predicate, row) == NONE ? NONE : many;
        }
        line("arguments of " + predicate, arguments);
        for (int step = 0; step < 1 << arguments; step++) {
            int set = step ^ step >> 1;
            int before = step == 0 ? 0 : step - 1 ^ step - 1 >> 1;
            int changed = Integer.numberOfTrailingZeros(set ^ before);
            if (step > 0) {
                g.given(changed, (set >> changed & 1) != 0);
            }
            line("order() of a call of " + predicate + " with " + set, g.order());
            line("way of a call of " + predicate + " with " + set, g.node(1, -1));
        }
    }

    private void tryRow() {
        GoalOrder g = made();
        int room = 0;
        while (room < 8 && g.put(0)) {
            room++;
        }
        line("room in the row", room);
        if (room < 7) {
            g = made();
            int sum = g.add(0, Sorts.SUM, 0);
            for (int k = 0; k < 7; k++) {
                line("variable " + k + " of the row", g.node(sum, 3 + k));
            }
        }
    }

    private void tryGiven() {
        GoalOrder g = made();
        for (int x = 0; x < 60; x++) {
            line("given(" + x + ", false)", g.given(x, false));
        }
    }

    private void tryWanted() {
        GoalOrder g = made();
        for (int x = 0; x < 60; x++) {
            line("wanted(" + x + ", false)", g.wanted(x, false));
        }
    }
}
