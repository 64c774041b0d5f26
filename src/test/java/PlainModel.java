import java.util.ArrayList;
import java.util.List;
import java.util.Set;
import java.util.TreeSet;

/** The document written down a second time, slowly and with the library, to compare the program with. */
final class PlainModel {
    private static final int NONE = -1;

    private static final class Goal {
        int number;
        int sort;
        int predicate;
        Goal parent;
        List<Integer> row = new ArrayList<>();
        List<Goal> parts = new ArrayList<>();

        boolean isAtom() {
            return sort >= 4;
        }

        int depth() {
            return parent == null ? 0 : parent.depth() + 1;
        }

        boolean isWithin(Goal whole) {
            return this == whole || parent != null && parent.isWithin(whole);
        }
    }

    /** What came of one try: behind is null when it can't be done. */
    private static final class Outcome {
        Goal goal;
        Set<Integer> ahead;
        Set<Integer> behind;
        Goal stuck;
        int way;
        List<Outcome> done = new ArrayList<>();

        Outcome find(Goal wanted) {
            if (goal == wanted) {
                return this;
            }
            for (Outcome part : done) {
                Outcome found = part.find(wanted);
                if (found != null) {
                    return found;
                }
            }
            return null;
        }
    }

    private static final class TooMany extends RuntimeException {
        private static final long serialVersionUID = 1L;
    }

    private final List<Integer> arguments = new ArrayList<>();
    private final List<List<Integer>> modes = new ArrayList<>();
    private final List<Goal> goals = new ArrayList<>();
    private final List<Integer> row = new ArrayList<>();
    private final Set<Integer> givenNow = new TreeSet<>();
    private final Set<Integer> wantedNow = new TreeSet<>();
    private Outcome ordering;
    private int stuckAt = NONE;
    private int tries;

    PlainModel() {
        goals.add(new Goal());
    }

    int predicate(int many) {
        if (arguments.size() == 60 || many < 0 || many > 6) {
            return NONE;
        }
        arguments.add(many);
        modes.add(new ArrayList<>());
        return arguments.size() - 1;
    }

    int mode(int predicate, int outs) {
        if (predicate < 0 || predicate >= arguments.size() || modes.get(predicate).size() == 4) {
            return NONE;
        }
        modes.get(predicate).add(outs);
        change();
        return modes.get(predicate).size() - 1;
    }

    void clear() {
        goals.clear();
        goals.add(new Goal());
        row.clear();
        givenNow.clear();
        wantedNow.clear();
        change();
    }

    boolean put(int x) {
        if (row.size() == 7 || x < 0 || x > 59) {
            return false;
        }
        return row.add(x);
    }

    int add(int parent, int sort, int predicate) {
        List<Integer> variables = new ArrayList<>(row);
        row.clear();
        if (goals.size() == 250 || parent < 0 || parent >= goals.size()) {
            return NONE;
        }
        Goal above = goals.get(parent);
        boolean full = above.sort == 2 && above.parts.size() == 1 || above.sort == 3 && above.parts.size() == 3;
        if (above.isAtom() || full || above.depth() == 20 || !rowFits(sort, predicate, variables.size())) {
            return NONE;
        }
        Goal goal = new Goal();
        goal.number = goals.size();
        goal.sort = sort;
        goal.predicate = predicate;
        goal.parent = above;
        goal.row = variables;
        above.parts.add(goal);
        goals.add(goal);
        change();
        return goal.number;
    }

    private boolean rowFits(int sort, int predicate, int many) {
        switch (sort) {
            case 0: case 1: case 2: case 3: case 4: case 5: return many == 0;
            case 6: case 7: return many == 2;
            case 8: return many >= 1 && many <= 5;
            case 9: return many == 1;
            case 10: return many >= 1;
            case 11: return many <= 6;
            case 12: return predicate >= 0 && predicate < arguments.size() && arguments.get(predicate) == many;
            default: return false;
        }
    }

    boolean given(int x, boolean on) {
        return switchOn(givenNow, x, on);
    }

    boolean wanted(int x, boolean on) {
        return switchOn(wantedNow, x, on);
    }

    private boolean switchOn(Set<Integer> set, int x, boolean on) {
        if (x < 0 || x > 59) {
            return false;
        }
        boolean changed = on ? set.add(x) : set.remove(x);
        if (changed) {
            change();
        }
        return changed;
    }

    private void change() {
        ordering = null;
        stuckAt = NONE;
    }

    int order() {
        change();
        tries = 0;
        Outcome outcome;
        try {
            outcome = attempt(goals.get(0), givenNow);
        } catch (TooMany e) {
            return 3;
        }
        if (outcome.behind == null) {
            stuckAt = outcome.stuck.number;
            return 1;
        }
        for (int x : wantedNow) {
            if (!outcome.behind.contains(x)) {
                stuckAt = x;
                return 2;
            }
        }
        ordering = outcome;
        return 0;
    }

    private Set<Integer> outers(Goal whole) {
        Set<Integer> set = new TreeSet<>(wantedNow);
        for (Goal goal : goals) {
            if (!goal.isWithin(whole)) {
                set.addAll(goal.row);
            }
        }
        return set;
    }

    private Set<Integer> inners(Goal whole) {
        Set<Integer> set = new TreeSet<>();
        for (Goal goal : goals) {
            if (goal.isWithin(whole)) {
                set.addAll(goal.row);
            }
        }
        return set;
    }

    private Outcome attempt(Goal goal, Set<Integer> ahead) {
        if (++tries > 20000) {
            throw new TooMany();
        }
        Outcome outcome = new Outcome();
        outcome.goal = goal;
        outcome.ahead = new TreeSet<>(ahead);
        outcome.stuck = goal;
        switch (goal.sort) {
            case 0: attemptRow(outcome); break;
            case 1: attemptChoice(outcome); break;
            case 2: attemptNot(outcome); break;
            case 3: attemptTest(outcome); break;
            default: attemptAtom(outcome); break;
        }
        return outcome;
    }

    private void attemptRow(Outcome outcome) {
        List<Goal> left = new ArrayList<>(outcome.goal.parts);
        Set<Integer> set = new TreeSet<>(outcome.ahead);
        while (!left.isEmpty()) {
            Goal firstStuck = null;
            Outcome doable = null;
            for (Goal part : left) {
                Outcome tried = attempt(part, set);
                if (tried.behind != null) {
                    doable = tried;
                    break;
                }
                if (firstStuck == null) {
                    firstStuck = tried.stuck;
                }
            }
            if (doable == null) {
                outcome.stuck = firstStuck;
                return;
            }
            outcome.done.add(doable);
            set = doable.behind;
            left.remove(doable.goal);
        }
        outcome.behind = new TreeSet<>(set);
    }

    /** Tries a part of a choice, not or test; null when it can't be done, and the whole is stuck where it is. */
    private Set<Integer> behindPart(Outcome whole, int k, Set<Integer> ahead) {
        Outcome part = attempt(whole.goal.parts.get(k), ahead);
        whole.done.add(part);
        if (part.behind == null) {
            whole.stuck = part.stuck;
        }
        return part.behind;
    }

    private void attemptChoice(Outcome outcome) {
        List<Set<Integer>> behinds = new ArrayList<>();
        for (int k = 0; k < outcome.goal.parts.size(); k++) {
            Set<Integer> behind = behindPart(outcome, k, outcome.ahead);
            if (behind == null) {
                return;
            }
            behinds.add(behind);
        }
        join(outcome, behinds);
    }

    private void join(Outcome outcome, List<Set<Integer>> behinds) {
        Set<Integer> result = new TreeSet<>(outcome.ahead);
        for (int x : outers(outcome.goal)) {
            int times = 0;
            for (Set<Integer> behind : behinds) {
                times += behind.contains(x) ? 1 : 0;
            }
            if (outcome.ahead.contains(x) || times == 0) {
                continue;
            }
            if (times < behinds.size()) {
                return;
            }
            result.add(x);
        }
        outcome.behind = result;
    }

    private void attemptNot(Outcome outcome) {
        if (outcome.goal.parts.isEmpty()) {
            return;
        }
        Set<Integer> behind = behindPart(outcome, 0, outcome.ahead);
        if (behind != null && !makesOneOf(behind, outcome.ahead, outers(outcome.goal))) {
            outcome.behind = outcome.ahead;
        }
    }

    private static boolean makesOneOf(Set<Integer> behind, Set<Integer> ahead, Set<Integer> forbidden) {
        for (int x : behind) {
            if (!ahead.contains(x) && forbidden.contains(x)) {
                return true;
            }
        }
        return false;
    }

    private void attemptTest(Outcome outcome) {
        if (outcome.goal.parts.size() < 3) {
            return;
        }
        Set<Integer> asked = behindPart(outcome, 0, outcome.ahead);
        if (asked == null) {
            return;
        }
        Set<Integer> forbidden = outers(outcome.goal);
        forbidden.addAll(inners(outcome.goal.parts.get(2)));
        if (makesOneOf(asked, outcome.ahead, forbidden)) {
            return;
        }
        Set<Integer> ifSo = behindPart(outcome, 1, asked);
        if (ifSo == null) {
            return;
        }
        Set<Integer> ifNot = behindPart(outcome, 2, outcome.ahead);
        if (ifNot != null) {
            join(outcome, List.of(ifSo, ifNot));
        }
    }

    private void attemptAtom(Outcome outcome) {
        List<Integer> variables = outcome.goal.row;
        Set<Integer> ahead = outcome.ahead;
        List<Integer> others = variables.isEmpty() ? variables : variables.subList(1, variables.size());
        boolean first = !variables.isEmpty() && ahead.contains(variables.get(0));
        boolean rest = ahead.containsAll(others);
        int way = NONE;
        switch (outcome.goal.sort) {
            case 4: case 5: way = 0; break;
            case 6: way = first && rest ? 1 : first ? 2 : rest ? 3 : NONE; break;
            case 7: case 11: way = ahead.containsAll(variables) ? 1 : NONE; break;
            case 8: way = first ? 1 : rest ? 2 : NONE; break;
            case 9: way = first ? 1 : 2; break;
            case 10: way = !rest ? NONE : first ? 1 : 2; break;
            default: way = firstMode(outcome.goal, ahead); break;
        }
        if (way != NONE) {
            outcome.way = way;
            outcome.behind = new TreeSet<>(ahead);
            // In every way that there is, all variables of the atom are ground behind it.
            outcome.behind.addAll(variables);
        }
    }

    private int firstMode(Goal call, Set<Integer> ahead) {
        List<Integer> all = modes.get(call.predicate);
        for (int mode = 0; mode < all.size(); mode++) {
            boolean fits = true;
            for (int k = 0; k < call.row.size(); k++) {
                boolean isOut = (all.get(mode) & 1 << k) != 0;
                fits = fits && (isOut || ahead.contains(call.row.get(k)));
            }
            if (fits) {
                return mode;
            }
        }
        return NONE;
    }

    int stuck() {
        return stuckAt;
    }

    private Goal goal(int number) {
        return number >= 0 && number < goals.size() ? goals.get(number) : null;
    }

    private Outcome outcome(int number) {
        return ordering == null || goal(number) == null ? null : ordering.find(goal(number));
    }

    int part(int node, int k) {
        Outcome outcome = outcome(node);
        return outcome == null || k < 0 || k >= outcome.done.size() ? NONE : outcome.done.get(k).goal.number;
    }

    int node(int node, int what) {
        Goal goal = goal(node);
        if (goal == null || what < -1) {
            return NONE;
        }
        if (what == -1) {
            return goal.isAtom() && outcome(node) != null ? outcome(node).way : NONE;
        }
        if (what <= 2) {
            return what == 0 ? goal.sort : what == 1 ? goal.parts.size() : goal.row.size();
        }
        return what - 3 < goal.row.size() ? goal.row.get(what - 3) : NONE;
    }

    boolean compared(int node, int k) {
        Outcome outcome = outcome(node);
        if (outcome == null || k < 0 || k >= outcome.goal.row.size()) {
            return false;
        }
        List<Integer> made = new ArrayList<>();
        boolean isForm = outcome.goal.sort == 8 && outcome.way == 1;
        boolean isCall = outcome.goal.sort == 12;
        for (int j = 0; j <= k; j++) {
            int x = outcome.goal.row.get(j);
            boolean isMade = isForm && j > 0
                || isCall && (modes.get(outcome.goal.predicate).get(outcome.way) & 1 << j) != 0;
            if (isMade && j == k) {
                return outcome.ahead.contains(x) || made.contains(x);
            }
            if (isMade) {
                made.add(x);
            }
        }
        return false;
    }

    boolean ground(int node, int x) {
        Outcome outcome = outcome(node);
        return outcome != null && outcome.ahead.contains(x);
    }

    boolean outer(int node, int x) {
        return goal(node) != null && outers(goal(node)).contains(x);
    }
}
