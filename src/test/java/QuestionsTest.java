/** Promises 11 to 15: the questions about the latest ordering. */
public final class QuestionsTest {
    private static final int NONE = GoalOrder.NONE;
    private static final int LEAST = Integer.MIN_VALUE;
    private static final int MOST = Integer.MAX_VALUE;
    private static final Due DUE = new Due();

    public static void main(String[] args) {
        promise11Part();
        promise11PartsOfOthers();
        promise12Node();
        promise12Way();
        promise13ComparedForm();
        promise13ComparedCall();
        promise13Others();
        promise14Ground();
        promise14GroundAsItIsDone();
        promise15Outer();
        promise15OuterWithoutOrdering();
        whatLeavesAnOrdering();
        whatLeavesNone();
        DUE.end();
    }

    private static void promise11Part() {
        GoalOrder g = new GoalOrder();
        int left = Sorts.add(g, 0, Sorts.SAME, 1, 2);
        int inner = g.add(0, Sorts.ROW, 0);
        int innerLeft = Sorts.add(g, inner, Sorts.SAME, 1, 3);
        int right = Sorts.add(g, 0, Sorts.NUMBER, 1);
        int innerRight = Sorts.add(g, inner, Sorts.NUMBER, 4);
        DUE.is("11: not ordered yet", g.part(0, 0), NONE);
        DUE.is("11: ordered", g.order(), 0);
        int[] due = {right, left, inner};
        for (int k = 0; k < 3; k++) {
            DUE.is("11: part " + k, g.part(0, k), due[k]);
        }
        DUE.is("11: the inner row's order is of its last try", g.part(inner, 0), innerLeft);
        DUE.is("11: and the other part", g.part(inner, 1), innerRight);
        int[] noParts = {-1, 3, LEAST, MOST};
        for (int k : noParts) {
            DUE.is("11: part " + k, g.part(0, k), NONE);
        }
        int[] noNodes = {-1, 6, 250, LEAST, MOST};
        for (int node : noNodes) {
            DUE.is("11: node " + node, g.part(node, 0), NONE);
        }
        DUE.is("11: an atom has none", g.part(left, 0), NONE);
    }

    private static void promise11PartsOfOthers() {
        GoalOrder g = new GoalOrder();
        int choice = g.add(0, Sorts.CHOICE, 0);
        int test = g.add(0, Sorts.TEST, 0);
        int not = g.add(0, Sorts.NOT, 0);
        int[] ofChoice = new int[4];
        for (int k = 0; k < 4; k++) {
            ofChoice[k] = g.add(choice, Sorts.TRUE, 0);
        }
        int[] ofTest = new int[3];
        for (int k = 0; k < 3; k++) {
            ofTest[k] = g.add(test, Sorts.FAIL, 0);
        }
        int ofNot = g.add(not, Sorts.ROW, 0);
        DUE.is("11: not ordered", g.part(choice, 0), NONE);
        DUE.is("11: ordered", g.order(), 0);
        for (int k = 0; k < 4; k++) {
            DUE.is("11: of a choice", g.part(choice, k), ofChoice[k]);
        }
        for (int k = 0; k < 3; k++) {
            DUE.is("11: of a test", g.part(test, k), ofTest[k]);
        }
        DUE.is("11: of a not", g.part(not, 0), ofNot);
        DUE.is("11: choice, none such", g.part(choice, 4), NONE);
        DUE.is("11: test, none such", g.part(test, 3), NONE);
        DUE.is("11: not, none such", g.part(not, 1), NONE);
        DUE.is("11: not, none such", g.part(not, -1), NONE);
        DUE.is("11: an empty row", g.part(ofNot, 0), NONE);
    }

    private static void promise12Node() {
        GoalOrder g = new GoalOrder();
        g.predicate(6);
        g.mode(0, 63);
        int choice = g.add(0, Sorts.CHOICE, 0);
        int call = Sorts.call(g, choice, Sorts.CALL, 0, 59, 0, 7, 7, 1, 2);
        g.add(choice, Sorts.TRUE, 0);
        DUE.is("12: the sort of a call", g.node(call, 0), Sorts.CALL);
        DUE.is("12: no parts", g.node(call, 1), 0);
        DUE.is("12: six variables", g.node(call, 2), 6);
        int[] due = {59, 0, 7, 7, 1, 2, NONE};
        for (int k = 0; k < due.length; k++) {
            DUE.is("12: variable " + k, g.node(call, 3 + k), due[k]);
        }
        DUE.is("12: the sort of a choice", g.node(choice, 0), Sorts.CHOICE);
        DUE.is("12: its parts", g.node(choice, 1), 2);
        DUE.is("12: its variables", g.node(choice, 2), 0);
        DUE.is("12: none of them", g.node(choice, 3), NONE);
        int[] noWhats = {-2, LEAST, MOST, 10};
        for (int what : noWhats) {
            DUE.is("12: what " + what, g.node(call, what), NONE);
        }
        int[] noNodes = {-1, 4, 250, LEAST, MOST};
        for (int node : noNodes) {
            DUE.is("12: node " + node, g.node(node, 0), NONE);
            DUE.is("12: node " + node, g.node(node, 1), NONE);
        }
    }

    private static void promise12Way() {
        GoalOrder g = new GoalOrder();
        int row = g.add(0, Sorts.ROW, 0);
        int number = Sorts.add(g, row, Sorts.NUMBER, 1);
        int same = Sorts.add(g, row, Sorts.SAME, 2, 1);
        int fail = g.add(row, Sorts.FAIL, 0);
        DUE.is("12: no way yet", g.node(number, -1), NONE);
        DUE.is("12: ordered", g.order(), 0);
        DUE.is("12: the way of a number", g.node(number, -1), 2);
        DUE.is("12: the way of a same", g.node(same, -1), 3);
        DUE.is("12: the way of a fail", g.node(fail, -1), 0);
        DUE.is("12: a row has none", g.node(row, -1), NONE);
        DUE.is("12: what is no node has none", g.node(99, -1), NONE);
        g.wanted(9, true);
        DUE.is("12: a fault", g.order(), 2);
        DUE.is("12: no way then", g.node(number, -1), NONE);
        DUE.is("12: but a sort", g.node(number, 0), Sorts.NUMBER);
    }

    private static void promise13ComparedForm() {
        GoalOrder g = new GoalOrder();
        g.given(1, true);
        g.given(3, true);
        int form = Sorts.add(g, 0, Sorts.FORM, 1, 2, 3, 2, 1);
        DUE.is("13: not ordered", g.compared(form, 2), false);
        DUE.is("13: ordered", g.order(), 0);
        boolean[] due = {false, false, true, true, true};
        for (int k = 0; k < 5; k++) {
            DUE.is("13: place " + k, g.compared(form, k), due[k]);
        }
        int[] noPlaces = {-1, 5, 6, 7, 32, 34, LEAST, MOST};
        for (int k : noPlaces) {
            DUE.is("13: place " + k, g.compared(form, k), false);
        }
        int[] noNodes = {-1, 2, LEAST, MOST};
        for (int node : noNodes) {
            DUE.is("13: node " + node, g.compared(node, 2), false);
        }
        g.clear();
        g.given(3, true);
        int making = Sorts.add(g, 0, Sorts.FORM, 1, 3, 3);
        DUE.is("13: ordered", g.order(), 0);
        DUE.is("13: a making", g.node(making, -1), 2);
        for (int k = 0; k < 3; k++) {
            DUE.is("13: compares nothing", g.compared(making, k), false);
        }
    }

    private static void promise13ComparedCall() {
        GoalOrder g = new GoalOrder();
        g.predicate(6);
        g.mode(0, 62);
        int call = Sorts.call(g, 0, Sorts.CALL, 0, 1, 2, 3, 2, 1, 3);
        g.given(1, true);
        g.given(3, true);
        DUE.is("13: ordered", g.order(), 0);
        boolean[] due = {false, false, true, true, true, true};
        for (int k = 0; k < 6; k++) {
            DUE.is("13: place " + k, g.compared(call, k), due[k]);
        }
        g.clear();
        g.predicate(3);
        g.mode(1, 4);
        g.mode(1, 0);
        int ins = Sorts.call(g, 0, Sorts.CALL, 1, 5, 5, 6);
        g.given(5, true);
        DUE.is("13: ordered", g.order(), 0);
        DUE.is("13: an in one again isn't", g.compared(ins, 1), false);
        DUE.is("13: a new out one isn't", g.compared(ins, 2), false);
        g.given(6, true);
        DUE.is("13: ordered", g.order(), 0);
        DUE.is("13: ground ahead it is", g.compared(ins, 2), true);
        g.clear();
        g.predicate(3);
        g.mode(2, 3);
        int inBehind = Sorts.call(g, 0, Sorts.CALL, 2, 4, 4, 4);
        g.given(4, true);
        DUE.is("13: ordered", g.order(), 0);
        DUE.is("13: an out one, ground by the in one", g.compared(inBehind, 0), true);
        DUE.is("13: another", g.compared(inBehind, 1), true);
        DUE.is("13: the in one", g.compared(inBehind, 2), false);
    }

    private static void promise13Others() {
        GoalOrder g = new GoalOrder();
        for (int x = 1; x < 5; x++) {
            g.given(x, true);
        }
        int[] sorts = {Sorts.SAME, Sorts.DIFFER, Sorts.SUM, Sorts.COMPARE};
        for (int sort : sorts) {
            Sorts.add(g, 0, sort, 1, 1);
        }
        Sorts.add(g, 0, Sorts.NUMBER, 1);
        DUE.is("13: ordered", g.order(), 0);
        for (int node = 0; node <= 5; node++) {
            DUE.is("13: sort " + g.node(node, 0), g.compared(node, 0), false);
            DUE.is("13: sort " + g.node(node, 0), g.compared(node, 1), false);
        }
    }

    private static void promise14Ground() {
        GoalOrder g = new GoalOrder();
        g.given(0, true);
        int compare = Sorts.add(g, 0, Sorts.COMPARE, 59, 0);
        int number = Sorts.add(g, 0, Sorts.NUMBER, 59);
        DUE.is("14: not ordered", g.ground(0, 0), false);
        DUE.is("14: ordered", g.order(), 0);
        DUE.is("14: ahead of all", g.ground(0, 0), true);
        DUE.is("14: not ahead of all", g.ground(0, 59), false);
        DUE.is("14: not ahead of what makes it", g.ground(number, 59), false);
        DUE.is("14: ahead of what needs it", g.ground(compare, 59), true);
        int[] noVariables = {-1, 60, 64, LEAST, MOST};
        for (int x : noVariables) {
            DUE.is("14: variable " + x, g.ground(compare, x), false);
        }
        int[] noNodes = {-1, 3, LEAST, MOST};
        for (int node : noNodes) {
            DUE.is("14: node " + node, g.ground(node, 0), false);
        }
    }

    /** The choice is tried twice: what is told is how it is at last. */
    private static void promise14GroundAsItIsDone() {
        GoalOrder g = new GoalOrder();
        int choice = g.add(0, Sorts.CHOICE, 0);
        int first = Sorts.add(g, choice, Sorts.NUMBER, 1);
        int second = Sorts.add(g, choice, Sorts.COMPARE, 1);
        int number = Sorts.add(g, 0, Sorts.NUMBER, 1);
        DUE.is("14: ordered", g.order(), 0);
        DUE.is("14: the choice", g.ground(choice, 1), true);
        DUE.is("14: its first part", g.ground(first, 1), true);
        DUE.is("14: its second part", g.ground(second, 1), true);
        DUE.is("14: the number", g.ground(number, 1), false);
    }

    private static void promise15Outer() {
        GoalOrder g = new GoalOrder();
        int row = g.add(0, Sorts.ROW, 0);
        int deep = g.add(row, Sorts.NOT, 0);
        int atom = Sorts.add(g, deep, Sorts.COMPARE, 1, 2);
        int beside = Sorts.add(g, row, Sorts.COMPARE, 2, 3);
        int outside = Sorts.add(g, 0, Sorts.NUMBER, 59);
        int late = g.add(0, Sorts.CHOICE, 0);
        int[] nodes = {0, row, deep, atom, beside, outside, late};
        int[] variables = {0, 1, 2, 3, 59};
        boolean[][] due = {
            {false, false, false, false, false},
            {false, false, false, false, true},
            {false, false, true, true, true},
            {false, false, true, true, true},
            {false, true, true, false, true},
            {false, true, true, true, false},
            {false, true, true, true, true},
        };
        for (int i = 0; i < nodes.length; i++) {
            for (int j = 0; j < variables.length; j++) {
                DUE.is("15: " + variables[j] + " of node " + nodes[i], g.outer(nodes[i], variables[j]), due[i][j]);
            }
        }
        g.wanted(0, true);
        for (int node : nodes) {
            DUE.is("15: a wanted one is outer of all", g.outer(node, 0), true);
        }
        g.wanted(0, false);
        for (int node : nodes) {
            DUE.is("15: and not any more", g.outer(node, 0), false);
        }
        g.given(0, true);
        DUE.is("15: a given one isn't", g.outer(0, 0), false);
        int[] noVariables = {-1, 60, 64, 65, LEAST, MOST};
        for (int x : noVariables) {
            DUE.is("15: variable " + x, g.outer(late, x), false);
        }
        int[] noNodes = {-1, 7, LEAST, MOST};
        for (int node : noNodes) {
            DUE.is("15: node " + node, g.outer(node, 1), false);
        }
    }

    private static void promise15OuterWithoutOrdering() {
        GoalOrder g = new GoalOrder();
        int left = Sorts.add(g, 0, Sorts.COMPARE, 1);
        Sorts.add(g, 0, Sorts.COMPARE, 2);
        DUE.is("15: before an ordering", g.outer(left, 2), true);
        DUE.is("15: a fault", g.order(), 1);
        DUE.is("15: behind a fault", g.outer(left, 2), true);
    }

    private static GoalOrder orderedOne() {
        GoalOrder g = new GoalOrder();
        g.predicate(1);
        g.given(1, true);
        Sorts.add(g, 0, Sorts.FORM, 1, 1);
        DUE.is("terms: ordered", g.order(), 0);
        return g;
    }

    private static void answers(String when, GoalOrder g, boolean ordered) {
        DUE.is("11: part " + when, g.part(0, 0), ordered ? 1 : NONE);
        DUE.is("12: way " + when, g.node(1, -1), ordered ? 1 : NONE);
        DUE.is("13: compared " + when, g.compared(1, 1), ordered);
        DUE.is("14: ground " + when, g.ground(1, 1), ordered);
    }

    private static void whatLeavesAnOrdering() {
        GoalOrder g = orderedOne();
        answers("at once", g, true);
        g.given(1, true);
        g.given(60, true);
        g.wanted(2, false);
        g.wanted(-1, true);
        answers("behind what is so", g, true);
        g.predicate(2);
        g.mode(5, 0);
        answers("behind a predicate and a refused mode", g, true);
        g.put(3);
        answers("behind a put", g, true);
        g.add(0, Sorts.TRUE, 0);
        answers("behind a refused add", g, true);
        g.order();
        answers("behind another ordering", g, true);
    }

    private static void whatLeavesNone() {
        GoalOrder g = orderedOne();
        g.add(0, Sorts.TRUE, 0);
        answers("behind an add", g, false);
        g = orderedOne();
        g.given(2, true);
        answers("behind another given", g, false);
        g.given(2, false);
        answers("also when it is taken back", g, false);
        g = orderedOne();
        g.wanted(1, true);
        answers("behind another wanted", g, false);
        g = orderedOne();
        g.mode(0, 0);
        answers("behind a new mode", g, false);
        g = orderedOne();
        g.clear();
        Sorts.add(g, 0, Sorts.FORM, 1, 1);
        answers("behind a clear", g, false);
        g = orderedOne();
        g.wanted(5, true);
        g.order();
        answers("behind an ordering with a fault", g, false);
    }
}
